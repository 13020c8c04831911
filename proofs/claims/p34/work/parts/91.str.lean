def zPt : List Bool → Jvm.Cond → Jvm.Cond
  | [], T => T
  | false :: m, .and a _ => zPt m a
  | true :: m, .and _ c => zPt m c
  | _ :: _, T => T
theorem zPt_b {args : Array Value} {s : State} (T : Jvm.Cond) (m : List Bool) : T.before args s = true → (zPt m T).before args s = true := by
  induction m generalizing T with
  | nil => exact fun h => h
  | cons x m ih =>
    intro h
    cases T with
    | and a c =>
      rw [Cond.before_and, Bool.and_eq_true] at h
      cases x
      · exact ih a h.1
      · exact ih c h.2
    | _ => cases x <;> exact h
set_option maxHeartbeats 8000000 in
set_option maxRecDepth 100000 in
theorem law_str {s : State} {b : Nat} (hgv : (Jvm.Cond.and given_1 narrow_1).before #[Value.ref b] s = true) (hts : ∀ w ∈ lw_tbl, w.before #[Value.ref b] s = true) : ∃ po : zPool, po.1 = [] ∧ zStr po (fun q : Nat => s.heap.size ≤ q) s s.heap := by
  have hfl := flat_of_before _ hgv
  have hNA : ∀ a : Nat, a < s.heap.size → ¬ (fun q : Nat => s.heap.size ≤ q) a := fun a h h2 => Nat.not_le.mpr h h2
  have hex : ∀ i : Nat, i < 10 → (Cond.exactly ((fun i : Nat => Term.string RX3 (zEnt.getD i 0)) i) "java/lang/String").before #[Value.ref b] s = true := by
    intro i hi
    rcases (show i = 0 ∨ i = 1 ∨ i = 2 ∨ i = 3 ∨ i = 4 ∨ i = 5 ∨ i = 6 ∨ i = 7 ∨ i = 8 ∨ i = 9 by omega) with rfl | rfl | rfl | rfl | rfl | rfl | rfl | rfl | rfl | rfl
    · exact (zPt_b (Jvm.Cond.and given_1 narrow_1) [true, false, true, false, false, false, false, false] hgv : Jvm.Cond.before (.exactly (.string RX3 113) "java/lang/String") #[Value.ref b] s = true)
    · exact (zPt_b (Jvm.Cond.and given_1 narrow_1) [true, false, true, false, false, true, true, true, false] hgv : Jvm.Cond.before (.exactly (.string RX3 114) "java/lang/String") #[Value.ref b] s = true)
    · exact (zPt_b (Jvm.Cond.and given_1 narrow_1) [true, false, true, false, true, true, false, true, true] hgv : Jvm.Cond.before (.exactly (.string RX3 116) "java/lang/String") #[Value.ref b] s = true)
    · exact (zPt_b (Jvm.Cond.and given_1 narrow_1) [true, false, true, true, false, true, false, true, true] hgv : Jvm.Cond.before (.exactly (.string RX3 118) "java/lang/String") #[Value.ref b] s = true)
    · exact (zPt_b (Jvm.Cond.and given_1 narrow_1) [true, false, true, true, true, true, false, true, true] hgv : Jvm.Cond.before (.exactly (.string RX3 120) "java/lang/String") #[Value.ref b] s = true)
    · exact (zPt_b (Jvm.Cond.and given_1 narrow_1) [true, true, false, false, false, true, true, true, true] hgv : Jvm.Cond.before (.exactly (.string RX3 122) "java/lang/String") #[Value.ref b] s = true)
    · exact (zPt_b (Jvm.Cond.and given_1 narrow_1) [true, true, false, true, false, false, true, true, true] hgv : Jvm.Cond.before (.exactly (.string RX3 124) "java/lang/String") #[Value.ref b] s = true)
    · exact (zPt_b (Jvm.Cond.and given_1 narrow_1) [true, true, false, true, true, true, true, false] hgv : Jvm.Cond.before (.exactly (.string RX3 126) "java/lang/String") #[Value.ref b] s = true)
    · exact (zPt_b (Jvm.Cond.and given_1 narrow_1) [true, true, true, false, true, false, false, false] hgv : Jvm.Cond.before (.exactly (.string RX3 128) "java/lang/String") #[Value.ref b] s = true)
    · exact (zPt_b (Jvm.Cond.and given_1 narrow_1) [true, true, true, true, false, true, false, false] hgv : Jvm.Cond.before (.exactly (.string RX3 130) "java/lang/String") #[Value.ref b] s = true)
  have hco : ∀ i : Nat, i < 10 → (Cond.eq (.field ((fun i : Nat => Term.string RX3 (zEnt.getD i 0)) i) "java/lang/String" "coder" "B") (.int 0)).before #[Value.ref b] s = true := by
    intro i hi
    rcases (show i = 0 ∨ i = 1 ∨ i = 2 ∨ i = 3 ∨ i = 4 ∨ i = 5 ∨ i = 6 ∨ i = 7 ∨ i = 8 ∨ i = 9 by omega) with rfl | rfl | rfl | rfl | rfl | rfl | rfl | rfl | rfl | rfl
    · exact (zPt_b (Jvm.Cond.and given_1 narrow_1) [true, false, true, false, false, false, false, true] hgv : Jvm.Cond.before (.eq (.field (.string RX3 113) "java/lang/String" "coder" "B") (.int 0)) #[Value.ref b] s = true)
    · exact (zPt_b (Jvm.Cond.and given_1 narrow_1) [true, false, true, false, false, true, true, true, true] hgv : Jvm.Cond.before (.eq (.field (.string RX3 114) "java/lang/String" "coder" "B") (.int 0)) #[Value.ref b] s = true)
    · exact (zPt_b (Jvm.Cond.and given_1 narrow_1) [true, false, true, false, true, true, true, false] hgv : Jvm.Cond.before (.eq (.field (.string RX3 116) "java/lang/String" "coder" "B") (.int 0)) #[Value.ref b] s = true)
    · exact (zPt_b (Jvm.Cond.and given_1 narrow_1) [true, false, true, true, false, true, true, false] hgv : Jvm.Cond.before (.eq (.field (.string RX3 118) "java/lang/String" "coder" "B") (.int 0)) #[Value.ref b] s = true)
    · exact (zPt_b (Jvm.Cond.and given_1 narrow_1) [true, false, true, true, true, true, true, false] hgv : Jvm.Cond.before (.eq (.field (.string RX3 120) "java/lang/String" "coder" "B") (.int 0)) #[Value.ref b] s = true)
    · exact (zPt_b (Jvm.Cond.and given_1 narrow_1) [true, true, false, false, true, false, false, false] hgv : Jvm.Cond.before (.eq (.field (.string RX3 122) "java/lang/String" "coder" "B") (.int 0)) #[Value.ref b] s = true)
    · exact (zPt_b (Jvm.Cond.and given_1 narrow_1) [true, true, false, true, false, true, false, false] hgv : Jvm.Cond.before (.eq (.field (.string RX3 124) "java/lang/String" "coder" "B") (.int 0)) #[Value.ref b] s = true)
    · exact (zPt_b (Jvm.Cond.and given_1 narrow_1) [true, true, false, true, true, true, true, true, false] hgv : Jvm.Cond.before (.eq (.field (.string RX3 126) "java/lang/String" "coder" "B") (.int 0)) #[Value.ref b] s = true)
    · exact (zPt_b (Jvm.Cond.and given_1 narrow_1) [true, true, true, false, true, false, false, true] hgv : Jvm.Cond.before (.eq (.field (.string RX3 128) "java/lang/String" "coder" "B") (.int 0)) #[Value.ref b] s = true)
    · exact (zPt_b (Jvm.Cond.and given_1 narrow_1) [true, true, true, true, false, true, false, true, false] hgv : Jvm.Cond.before (.eq (.field (.string RX3 130) "java/lang/String" "coder" "B") (.int 0)) #[Value.ref b] s = true)
  have har : ∀ i : Nat, i < 10 → (Cond.arrayOf (.field ((fun i : Nat => Term.string RX3 (zEnt.getD i 0)) i) "java/lang/String" "value" "[B") .byte).before #[Value.ref b] s = true := by
    intro i hi
    rcases (show i = 0 ∨ i = 1 ∨ i = 2 ∨ i = 3 ∨ i = 4 ∨ i = 5 ∨ i = 6 ∨ i = 7 ∨ i = 8 ∨ i = 9 by omega) with rfl | rfl | rfl | rfl | rfl | rfl | rfl | rfl | rfl | rfl
    · exact (zPt_b (Jvm.Cond.and given_1 narrow_1) [true, false, true, false, false, false, true, false] hgv : Jvm.Cond.before (.arrayOf (.field (.string RX3 113) "java/lang/String" "value" "[B") .byte) #[Value.ref b] s = true)
    · exact (zPt_b (Jvm.Cond.and given_1 narrow_1) [true, false, true, false, true, false, false, false] hgv : Jvm.Cond.before (.arrayOf (.field (.string RX3 114) "java/lang/String" "value" "[B") .byte) #[Value.ref b] s = true)
    · exact (zPt_b (Jvm.Cond.and given_1 narrow_1) [true, false, true, false, true, true, true, true, false] hgv : Jvm.Cond.before (.arrayOf (.field (.string RX3 116) "java/lang/String" "value" "[B") .byte) #[Value.ref b] s = true)
    · exact (zPt_b (Jvm.Cond.and given_1 narrow_1) [true, false, true, true, false, true, true, true, false] hgv : Jvm.Cond.before (.arrayOf (.field (.string RX3 118) "java/lang/String" "value" "[B") .byte) #[Value.ref b] s = true)
    · exact (zPt_b (Jvm.Cond.and given_1 narrow_1) [true, false, true, true, true, true, true, true, false] hgv : Jvm.Cond.before (.arrayOf (.field (.string RX3 120) "java/lang/String" "value" "[B") .byte) #[Value.ref b] s = true)
    · exact (zPt_b (Jvm.Cond.and given_1 narrow_1) [true, true, false, false, true, false, false, true] hgv : Jvm.Cond.before (.arrayOf (.field (.string RX3 122) "java/lang/String" "value" "[B") .byte) #[Value.ref b] s = true)
    · exact (zPt_b (Jvm.Cond.and given_1 narrow_1) [true, true, false, true, false, true, false, true, false] hgv : Jvm.Cond.before (.arrayOf (.field (.string RX3 124) "java/lang/String" "value" "[B") .byte) #[Value.ref b] s = true)
    · exact (zPt_b (Jvm.Cond.and given_1 narrow_1) [true, true, false, true, true, true, true, true, true] hgv : Jvm.Cond.before (.arrayOf (.field (.string RX3 126) "java/lang/String" "value" "[B") .byte) #[Value.ref b] s = true)
    · exact (zPt_b (Jvm.Cond.and given_1 narrow_1) [true, true, true, false, true, false, true, false] hgv : Jvm.Cond.before (.arrayOf (.field (.string RX3 128) "java/lang/String" "value" "[B") .byte) #[Value.ref b] s = true)
    · exact (zPt_b (Jvm.Cond.and given_1 narrow_1) [true, true, true, true, false, true, false, true, true] hgv : Jvm.Cond.before (.arrayOf (.field (.string RX3 130) "java/lang/String" "value" "[B") .byte) #[Value.ref b] s = true)
  have hle : ∀ i : Nat, i < 10 → (Cond.eq (.length (.field ((fun i : Nat => Term.string RX3 (zEnt.getD i 0)) i) "java/lang/String" "value" "[B")) (.int (Int32.ofNat (zLen.getD i 0)))).before #[Value.ref b] s = true := by
    intro i hi
    rcases (show i = 0 ∨ i = 1 ∨ i = 2 ∨ i = 3 ∨ i = 4 ∨ i = 5 ∨ i = 6 ∨ i = 7 ∨ i = 8 ∨ i = 9 by omega) with rfl | rfl | rfl | rfl | rfl | rfl | rfl | rfl | rfl | rfl
    · exact (zPt_b (Jvm.Cond.and given_1 narrow_1) [true, false, true, false, false, false, true, true, false] hgv : Jvm.Cond.before (.eq (.length (.field (.string RX3 113) "java/lang/String" "value" "[B")) (.int 5)) #[Value.ref b] s = true)
    · exact (zPt_b (Jvm.Cond.and given_1 narrow_1) [true, false, true, false, true, false, false, true] hgv : Jvm.Cond.before (.eq (.length (.field (.string RX3 114) "java/lang/String" "value" "[B")) (.int 4)) #[Value.ref b] s = true)
    · exact (zPt_b (Jvm.Cond.and given_1 narrow_1) [true, false, true, false, true, true, true, true, true] hgv : Jvm.Cond.before (.eq (.length (.field (.string RX3 116) "java/lang/String" "value" "[B")) (.int 5)) #[Value.ref b] s = true)
    · exact (zPt_b (Jvm.Cond.and given_1 narrow_1) [true, false, true, true, false, true, true, true, true] hgv : Jvm.Cond.before (.eq (.length (.field (.string RX3 118) "java/lang/String" "value" "[B")) (.int 4)) #[Value.ref b] s = true)
    · exact (zPt_b (Jvm.Cond.and given_1 narrow_1) [true, false, true, true, true, true, true, true, true] hgv : Jvm.Cond.before (.eq (.length (.field (.string RX3 120) "java/lang/String" "value" "[B")) (.int 5)) #[Value.ref b] s = true)
    · exact (zPt_b (Jvm.Cond.and given_1 narrow_1) [true, true, false, false, true, false, true, false] hgv : Jvm.Cond.before (.eq (.length (.field (.string RX3 122) "java/lang/String" "value" "[B")) (.int 7)) #[Value.ref b] s = true)
    · exact (zPt_b (Jvm.Cond.and given_1 narrow_1) [true, true, false, true, false, true, false, true, true] hgv : Jvm.Cond.before (.eq (.length (.field (.string RX3 124) "java/lang/String" "value" "[B")) (.int 5)) #[Value.ref b] s = true)
    · exact (zPt_b (Jvm.Cond.and given_1 narrow_1) [true, true, true, false, false, false, false, false] hgv : Jvm.Cond.before (.eq (.length (.field (.string RX3 126) "java/lang/String" "value" "[B")) (.int 3)) #[Value.ref b] s = true)
    · exact (zPt_b (Jvm.Cond.and given_1 narrow_1) [true, true, true, false, true, false, true, true, false] hgv : Jvm.Cond.before (.eq (.length (.field (.string RX3 128) "java/lang/String" "value" "[B")) (.int 4)) #[Value.ref b] s = true)
    · exact (zPt_b (Jvm.Cond.and given_1 narrow_1) [true, true, true, true, false, true, true, false] hgv : Jvm.Cond.before (.eq (.length (.field (.string RX3 130) "java/lang/String" "value" "[B")) (.int 2)) #[Value.ref b] s = true)
  have hel : ∀ i : Nat, i < 10 → ∀ j : Nat, j < zLen.getD i 0 → (Cond.eq (.elem (.field ((fun i : Nat => Term.string RX3 (zEnt.getD i 0)) i) "java/lang/String" "value" "[B") (.int (Int32.ofNat j))) (.int ((zByt.getD i []).getD j 0))).before #[Value.ref b] s = true := by
    intro i hi
    rcases (show i = 0 ∨ i = 1 ∨ i = 2 ∨ i = 3 ∨ i = 4 ∨ i = 5 ∨ i = 6 ∨ i = 7 ∨ i = 8 ∨ i = 9 by omega) with rfl | rfl | rfl | rfl | rfl | rfl | rfl | rfl | rfl | rfl
    · intro j hj
      rcases (show j = 0 ∨ j = 1 ∨ j = 2 ∨ j = 3 ∨ j = 4 from (by have h7 : j < 5 := hj; omega)) with rfl | rfl | rfl | rfl | rfl
      · exact (zPt_b (Jvm.Cond.and given_1 narrow_1) [true, false, true, false, false, false, true, true, true] hgv : Jvm.Cond.before (.eq (.elem (.field (.string RX3 113) "java/lang/String" "value" "[B") (.int 0)) (.int 116)) #[Value.ref b] s = true)
      · exact (zPt_b (Jvm.Cond.and given_1 narrow_1) [true, false, true, false, false, true, false, false] hgv : Jvm.Cond.before (.eq (.elem (.field (.string RX3 113) "java/lang/String" "value" "[B") (.int 1)) (.int 101)) #[Value.ref b] s = true)
      · exact (zPt_b (Jvm.Cond.and given_1 narrow_1) [true, false, true, false, false, true, false, true, false] hgv : Jvm.Cond.before (.eq (.elem (.field (.string RX3 113) "java/lang/String" "value" "[B") (.int 2)) (.int 101)) #[Value.ref b] s = true)
      · exact (zPt_b (Jvm.Cond.and given_1 narrow_1) [true, false, true, false, false, true, false, true, true] hgv : Jvm.Cond.before (.eq (.elem (.field (.string RX3 113) "java/lang/String" "value" "[B") (.int 3)) (.int 116)) #[Value.ref b] s = true)
      · exact (zPt_b (Jvm.Cond.and given_1 narrow_1) [true, false, true, false, false, true, true, false] hgv : Jvm.Cond.before (.eq (.elem (.field (.string RX3 113) "java/lang/String" "value" "[B") (.int 4)) (.int 104)) #[Value.ref b] s = true)
    · intro j hj
      rcases (show j = 0 ∨ j = 1 ∨ j = 2 ∨ j = 3 from (by have h7 : j < 4 := hj; omega)) with rfl | rfl | rfl | rfl
      · exact (zPt_b (Jvm.Cond.and given_1 narrow_1) [true, false, true, false, true, false, true, false] hgv : Jvm.Cond.before (.eq (.elem (.field (.string RX3 114) "java/lang/String" "value" "[B") (.int 0)) (.int 108)) #[Value.ref b] s = true)
      · exact (zPt_b (Jvm.Cond.and given_1 narrow_1) [true, false, true, false, true, false, true, true, false] hgv : Jvm.Cond.before (.eq (.elem (.field (.string RX3 114) "java/lang/String" "value" "[B") (.int 1)) (.int 97)) #[Value.ref b] s = true)
      · exact (zPt_b (Jvm.Cond.and given_1 narrow_1) [true, false, true, false, true, false, true, true, true] hgv : Jvm.Cond.before (.eq (.elem (.field (.string RX3 114) "java/lang/String" "value" "[B") (.int 2)) (.int 99)) #[Value.ref b] s = true)
      · exact (zPt_b (Jvm.Cond.and given_1 narrow_1) [true, false, true, false, true, true, false, false] hgv : Jvm.Cond.before (.eq (.elem (.field (.string RX3 114) "java/lang/String" "value" "[B") (.int 3)) (.int 107)) #[Value.ref b] s = true)
    · intro j hj
      rcases (show j = 0 ∨ j = 1 ∨ j = 2 ∨ j = 3 ∨ j = 4 from (by have h7 : j < 5 := hj; omega)) with rfl | rfl | rfl | rfl | rfl
      · exact (zPt_b (Jvm.Cond.and given_1 narrow_1) [true, false, true, true, false, false, false, false] hgv : Jvm.Cond.before (.eq (.elem (.field (.string RX3 116) "java/lang/String" "value" "[B") (.int 0)) (.int 115)) #[Value.ref b] s = true)
      · exact (zPt_b (Jvm.Cond.and given_1 narrow_1) [true, false, true, true, false, false, false, true] hgv : Jvm.Cond.before (.eq (.elem (.field (.string RX3 116) "java/lang/String" "value" "[B") (.int 1)) (.int 108)) #[Value.ref b] s = true)
      · exact (zPt_b (Jvm.Cond.and given_1 narrow_1) [true, false, true, true, false, false, true, false] hgv : Jvm.Cond.before (.eq (.elem (.field (.string RX3 116) "java/lang/String" "value" "[B") (.int 2)) (.int 97)) #[Value.ref b] s = true)
      · exact (zPt_b (Jvm.Cond.and given_1 narrow_1) [true, false, true, true, false, false, true, true, false] hgv : Jvm.Cond.before (.eq (.elem (.field (.string RX3 116) "java/lang/String" "value" "[B") (.int 3)) (.int 99)) #[Value.ref b] s = true)
      · exact (zPt_b (Jvm.Cond.and given_1 narrow_1) [true, false, true, true, false, false, true, true, true] hgv : Jvm.Cond.before (.eq (.elem (.field (.string RX3 116) "java/lang/String" "value" "[B") (.int 4)) (.int 107)) #[Value.ref b] s = true)
    · intro j hj
      rcases (show j = 0 ∨ j = 1 ∨ j = 2 ∨ j = 3 from (by have h7 : j < 4 := hj; omega)) with rfl | rfl | rfl | rfl
      · exact (zPt_b (Jvm.Cond.and given_1 narrow_1) [true, false, true, true, true, false, false, false] hgv : Jvm.Cond.before (.eq (.elem (.field (.string RX3 118) "java/lang/String" "value" "[B") (.int 0)) (.int 112)) #[Value.ref b] s = true)
      · exact (zPt_b (Jvm.Cond.and given_1 narrow_1) [true, false, true, true, true, false, false, true] hgv : Jvm.Cond.before (.eq (.elem (.field (.string RX3 118) "java/lang/String" "value" "[B") (.int 1)) (.int 117)) #[Value.ref b] s = true)
      · exact (zPt_b (Jvm.Cond.and given_1 narrow_1) [true, false, true, true, true, false, true, false] hgv : Jvm.Cond.before (.eq (.elem (.field (.string RX3 118) "java/lang/String" "value" "[B") (.int 2)) (.int 108)) #[Value.ref b] s = true)
      · exact (zPt_b (Jvm.Cond.and given_1 narrow_1) [true, false, true, true, true, false, true, true, false] hgv : Jvm.Cond.before (.eq (.elem (.field (.string RX3 118) "java/lang/String" "value" "[B") (.int 3)) (.int 108)) #[Value.ref b] s = true)
    · intro j hj
      rcases (show j = 0 ∨ j = 1 ∨ j = 2 ∨ j = 3 ∨ j = 4 from (by have h7 : j < 5 := hj; omega)) with rfl | rfl | rfl | rfl | rfl
      · exact (zPt_b (Jvm.Cond.and given_1 narrow_1) [true, true, false, false, false, false, false, false] hgv : Jvm.Cond.before (.eq (.elem (.field (.string RX3 120) "java/lang/String" "value" "[B") (.int 0)) (.int 100)) #[Value.ref b] s = true)
      · exact (zPt_b (Jvm.Cond.and given_1 narrow_1) [true, true, false, false, false, false, false, true] hgv : Jvm.Cond.before (.eq (.elem (.field (.string RX3 120) "java/lang/String" "value" "[B") (.int 1)) (.int 101)) #[Value.ref b] s = true)
      · exact (zPt_b (Jvm.Cond.and given_1 narrow_1) [true, true, false, false, false, false, true, false] hgv : Jvm.Cond.before (.eq (.elem (.field (.string RX3 120) "java/lang/String" "value" "[B") (.int 2)) (.int 112)) #[Value.ref b] s = true)
      · exact (zPt_b (Jvm.Cond.and given_1 narrow_1) [true, true, false, false, false, false, true, true, false] hgv : Jvm.Cond.before (.eq (.elem (.field (.string RX3 120) "java/lang/String" "value" "[B") (.int 3)) (.int 116)) #[Value.ref b] s = true)
      · exact (zPt_b (Jvm.Cond.and given_1 narrow_1) [true, true, false, false, false, false, true, true, true] hgv : Jvm.Cond.before (.eq (.elem (.field (.string RX3 120) "java/lang/String" "value" "[B") (.int 4)) (.int 104)) #[Value.ref b] s = true)
    · intro j hj
      rcases (show j = 0 ∨ j = 1 ∨ j = 2 ∨ j = 3 ∨ j = 4 ∨ j = 5 ∨ j = 6 from (by have h7 : j < 7 := hj; omega)) with rfl | rfl | rfl | rfl | rfl | rfl | rfl
      · exact (zPt_b (Jvm.Cond.and given_1 narrow_1) [true, true, false, false, true, false, true, true, false] hgv : Jvm.Cond.before (.eq (.elem (.field (.string RX3 122) "java/lang/String" "value" "[B") (.int 0)) (.int 115)) #[Value.ref b] s = true)
      · exact (zPt_b (Jvm.Cond.and given_1 narrow_1) [true, true, false, false, true, false, true, true, true] hgv : Jvm.Cond.before (.eq (.elem (.field (.string RX3 122) "java/lang/String" "value" "[B") (.int 1)) (.int 101)) #[Value.ref b] s = true)
      · exact (zPt_b (Jvm.Cond.and given_1 narrow_1) [true, true, false, false, true, true, false, false] hgv : Jvm.Cond.before (.eq (.elem (.field (.string RX3 122) "java/lang/String" "value" "[B") (.int 2)) (.int 99)) #[Value.ref b] s = true)
      · exact (zPt_b (Jvm.Cond.and given_1 narrow_1) [true, true, false, false, true, true, false, true, false] hgv : Jvm.Cond.before (.eq (.elem (.field (.string RX3 122) "java/lang/String" "value" "[B") (.int 3)) (.int 111)) #[Value.ref b] s = true)
      · exact (zPt_b (Jvm.Cond.and given_1 narrow_1) [true, true, false, false, true, true, false, true, true] hgv : Jvm.Cond.before (.eq (.elem (.field (.string RX3 122) "java/lang/String" "value" "[B") (.int 4)) (.int 110)) #[Value.ref b] s = true)
      · exact (zPt_b (Jvm.Cond.and given_1 narrow_1) [true, true, false, false, true, true, true, false] hgv : Jvm.Cond.before (.eq (.elem (.field (.string RX3 122) "java/lang/String" "value" "[B") (.int 5)) (.int 100)) #[Value.ref b] s = true)
      · exact (zPt_b (Jvm.Cond.and given_1 narrow_1) [true, true, false, false, true, true, true, true, false] hgv : Jvm.Cond.before (.eq (.elem (.field (.string RX3 122) "java/lang/String" "value" "[B") (.int 6)) (.int 115)) #[Value.ref b] s = true)
    · intro j hj
      rcases (show j = 0 ∨ j = 1 ∨ j = 2 ∨ j = 3 ∨ j = 4 from (by have h7 : j < 5 := hj; omega)) with rfl | rfl | rfl | rfl | rfl
      · exact (zPt_b (Jvm.Cond.and given_1 narrow_1) [true, true, false, true, false, true, true, false] hgv : Jvm.Cond.before (.eq (.elem (.field (.string RX3 124) "java/lang/String" "value" "[B") (.int 0)) (.int 104)) #[Value.ref b] s = true)
      · exact (zPt_b (Jvm.Cond.and given_1 narrow_1) [true, true, false, true, false, true, true, true, false] hgv : Jvm.Cond.before (.eq (.elem (.field (.string RX3 124) "java/lang/String" "value" "[B") (.int 1)) (.int 117)) #[Value.ref b] s = true)
      · exact (zPt_b (Jvm.Cond.and given_1 narrow_1) [true, true, false, true, false, true, true, true, true] hgv : Jvm.Cond.before (.eq (.elem (.field (.string RX3 124) "java/lang/String" "value" "[B") (.int 2)) (.int 114)) #[Value.ref b] s = true)
      · exact (zPt_b (Jvm.Cond.and given_1 narrow_1) [true, true, false, true, true, false, false, false] hgv : Jvm.Cond.before (.eq (.elem (.field (.string RX3 124) "java/lang/String" "value" "[B") (.int 3)) (.int 114)) #[Value.ref b] s = true)
      · exact (zPt_b (Jvm.Cond.and given_1 narrow_1) [true, true, false, true, true, false, false, true] hgv : Jvm.Cond.before (.eq (.elem (.field (.string RX3 124) "java/lang/String" "value" "[B") (.int 4)) (.int 121)) #[Value.ref b] s = true)
    · intro j hj
      rcases (show j = 0 ∨ j = 1 ∨ j = 2 from (by have h7 : j < 3 := hj; omega)) with rfl | rfl | rfl
      · exact (zPt_b (Jvm.Cond.and given_1 narrow_1) [true, true, true, false, false, false, false, true] hgv : Jvm.Cond.before (.eq (.elem (.field (.string RX3 126) "java/lang/String" "value" "[B") (.int 0)) (.int 103)) #[Value.ref b] s = true)
      · exact (zPt_b (Jvm.Cond.and given_1 narrow_1) [true, true, true, false, false, false, true, false] hgv : Jvm.Cond.before (.eq (.elem (.field (.string RX3 126) "java/lang/String" "value" "[B") (.int 1)) (.int 97)) #[Value.ref b] s = true)
      · exact (zPt_b (Jvm.Cond.and given_1 narrow_1) [true, true, true, false, false, false, true, true, false] hgv : Jvm.Cond.before (.eq (.elem (.field (.string RX3 126) "java/lang/String" "value" "[B") (.int 2)) (.int 112)) #[Value.ref b] s = true)
    · intro j hj
      rcases (show j = 0 ∨ j = 1 ∨ j = 2 ∨ j = 3 from (by have h7 : j < 4 := hj; omega)) with rfl | rfl | rfl | rfl
      · exact (zPt_b (Jvm.Cond.and given_1 narrow_1) [true, true, true, false, true, false, true, true, true] hgv : Jvm.Cond.before (.eq (.elem (.field (.string RX3 128) "java/lang/String" "value" "[B") (.int 0)) (.int 99)) #[Value.ref b] s = true)
      · exact (zPt_b (Jvm.Cond.and given_1 narrow_1) [true, true, true, false, true, true, false, false] hgv : Jvm.Cond.before (.eq (.elem (.field (.string RX3 128) "java/lang/String" "value" "[B") (.int 1)) (.int 111)) #[Value.ref b] s = true)
      · exact (zPt_b (Jvm.Cond.and given_1 narrow_1) [true, true, true, false, true, true, false, true, false] hgv : Jvm.Cond.before (.eq (.elem (.field (.string RX3 128) "java/lang/String" "value" "[B") (.int 2)) (.int 115)) #[Value.ref b] s = true)
      · exact (zPt_b (Jvm.Cond.and given_1 narrow_1) [true, true, true, false, true, true, false, true, true] hgv : Jvm.Cond.before (.eq (.elem (.field (.string RX3 128) "java/lang/String" "value" "[B") (.int 3)) (.int 116)) #[Value.ref b] s = true)
    · intro j hj
      rcases (show j = 0 ∨ j = 1 from (by have h7 : j < 2 := hj; omega)) with rfl | rfl
      · exact (zPt_b (Jvm.Cond.and given_1 narrow_1) [true, true, true, true, false, true, true, true, false] hgv : Jvm.Cond.before (.eq (.elem (.field (.string RX3 130) "java/lang/String" "value" "[B") (.int 0)) (.int 97)) #[Value.ref b] s = true)
      · exact (zPt_b (Jvm.Cond.and given_1 narrow_1) [true, true, true, true, false, true, true, true, true] hgv : Jvm.Cond.before (.eq (.elem (.field (.string RX3 130) "java/lang/String" "value" "[B") (.int 1)) (.int 116)) #[Value.ref b] s = true)
  have hsr : ∀ i : Nat, i < 10 → (Cond.stringRef RX3 (zEnt.getD i 0) (zTxt.getD i "")).before #[Value.ref b] s = true := by
    intro i hi
    rcases (show i = 0 ∨ i = 1 ∨ i = 2 ∨ i = 3 ∨ i = 4 ∨ i = 5 ∨ i = 6 ∨ i = 7 ∨ i = 8 ∨ i = 9 by omega) with rfl | rfl | rfl | rfl | rfl | rfl | rfl | rfl | rfl | rfl
    · exact hts (Cond.stringRef RX3 113 "teeth") zh_0
    · exact hts (Cond.stringRef RX3 114 "lack") zh_1
    · exact hts (Cond.stringRef RX3 116 "slack") zh_2
    · exact hts (Cond.stringRef RX3 118 "pull") zh_3
    · exact hts (Cond.stringRef RX3 120 "depth") zh_4
    · exact hts (Cond.stringRef RX3 122 "seconds") zh_5
    · exact hts (Cond.stringRef RX3 124 "hurry") zh_6
    · exact hts (Cond.stringRef RX3 126 "gap") zh_7
    · exact hts (Cond.stringRef RX3 128 "cost") zh_8
    · exact hts (Cond.stringRef RX3 130 "at") zh_9
  have hne : ∀ i j : Nat, i < 10 → j < 10 → i ≠ j → (Cond.not (Cond.eq ((fun i : Nat => Term.string RX3 (zEnt.getD i 0)) i) ((fun i : Nat => Term.string RX3 (zEnt.getD i 0)) j))).before #[Value.ref b] s = true ∨ (Cond.not (Cond.eq ((fun i : Nat => Term.string RX3 (zEnt.getD i 0)) j) ((fun i : Nat => Term.string RX3 (zEnt.getD i 0)) i))).before #[Value.ref b] s = true := by
    have hlt : ∀ i j : Nat, i < j → j < 10 → (Cond.not (Cond.eq (Term.string RX3 (zEnt.getD i 0)) (Term.string RX3 (zEnt.getD j 0)))).before #[Value.ref b] s = true ∨ (Cond.not (Cond.eq (Term.string RX3 (zEnt.getD j 0)) (Term.string RX3 (zEnt.getD i 0)))).before #[Value.ref b] s = true := by
      intro i j hij hj
      rcases (show j = 0 ∨ j = 1 ∨ j = 2 ∨ j = 3 ∨ j = 4 ∨ j = 5 ∨ j = 6 ∨ j = 7 ∨ j = 8 ∨ j = 9 by omega) with rfl | rfl | rfl | rfl | rfl | rfl | rfl | rfl | rfl | rfl
      · omega
      · obtain rfl : i = 0 := by omega
        first | exact Or.inl ((zPt_b (Jvm.Cond.and given_1 narrow_1) [true, false, true, false, true, true, false, true, false] hgv : Jvm.Cond.before (.not (.eq (.string RX3 113) (.string RX3 114))) #[Value.ref b] s = true)) | exact Or.inr (hfl (.not (.eq (.string RX3 114) (.string RX3 113))) (by decide +kernel))
      · rcases (show i = 0 ∨ i = 1 by omega) with rfl | rfl
        · exact Or.inl ((zPt_b (Jvm.Cond.and given_1 narrow_1) [true, false, true, true, false, true, false, false] hgv : Jvm.Cond.before (.not (.eq (.string RX3 113) (.string RX3 116))) #[Value.ref b] s = true))
        · exact Or.inl ((zPt_b (Jvm.Cond.and given_1 narrow_1) [true, false, true, true, false, true, false, true, false] hgv : Jvm.Cond.before (.not (.eq (.string RX3 114) (.string RX3 116))) #[Value.ref b] s = true))
      · rcases (show i = 0 ∨ i = 1 ∨ i = 2 by omega) with rfl | rfl | rfl
        · exact Or.inl ((zPt_b (Jvm.Cond.and given_1 narrow_1) [true, false, true, true, true, false, true, true, true] hgv : Jvm.Cond.before (.not (.eq (.string RX3 113) (.string RX3 118))) #[Value.ref b] s = true))
        · exact Or.inl ((zPt_b (Jvm.Cond.and given_1 narrow_1) [true, false, true, true, true, true, false, false] hgv : Jvm.Cond.before (.not (.eq (.string RX3 114) (.string RX3 118))) #[Value.ref b] s = true))
        · exact Or.inl ((zPt_b (Jvm.Cond.and given_1 narrow_1) [true, false, true, true, true, true, false, true, false] hgv : Jvm.Cond.before (.not (.eq (.string RX3 116) (.string RX3 118))) #[Value.ref b] s = true))
      · rcases (show i = 0 ∨ i = 1 ∨ i = 2 ∨ i = 3 by omega) with rfl | rfl | rfl | rfl
        · exact Or.inl ((zPt_b (Jvm.Cond.and given_1 narrow_1) [true, true, false, false, false, true, false, false] hgv : Jvm.Cond.before (.not (.eq (.string RX3 113) (.string RX3 120))) #[Value.ref b] s = true))
        · exact Or.inl ((zPt_b (Jvm.Cond.and given_1 narrow_1) [true, true, false, false, false, true, false, true] hgv : Jvm.Cond.before (.not (.eq (.string RX3 114) (.string RX3 120))) #[Value.ref b] s = true))
        · exact Or.inl ((zPt_b (Jvm.Cond.and given_1 narrow_1) [true, true, false, false, false, true, true, false] hgv : Jvm.Cond.before (.not (.eq (.string RX3 116) (.string RX3 120))) #[Value.ref b] s = true))
        · exact Or.inl ((zPt_b (Jvm.Cond.and given_1 narrow_1) [true, true, false, false, false, true, true, true, false] hgv : Jvm.Cond.before (.not (.eq (.string RX3 118) (.string RX3 120))) #[Value.ref b] s = true))
      · rcases (show i = 0 ∨ i = 1 ∨ i = 2 ∨ i = 3 ∨ i = 4 by omega) with rfl | rfl | rfl | rfl | rfl
        · exact Or.inl ((zPt_b (Jvm.Cond.and given_1 narrow_1) [true, true, false, false, true, true, true, true, true] hgv : Jvm.Cond.before (.not (.eq (.string RX3 113) (.string RX3 122))) #[Value.ref b] s = true))
        · exact Or.inl ((zPt_b (Jvm.Cond.and given_1 narrow_1) [true, true, false, true, false, false, false, false] hgv : Jvm.Cond.before (.not (.eq (.string RX3 114) (.string RX3 122))) #[Value.ref b] s = true))
        · exact Or.inl ((zPt_b (Jvm.Cond.and given_1 narrow_1) [true, true, false, true, false, false, false, true] hgv : Jvm.Cond.before (.not (.eq (.string RX3 116) (.string RX3 122))) #[Value.ref b] s = true))
        · exact Or.inl ((zPt_b (Jvm.Cond.and given_1 narrow_1) [true, true, false, true, false, false, true, false] hgv : Jvm.Cond.before (.not (.eq (.string RX3 118) (.string RX3 122))) #[Value.ref b] s = true))
        · exact Or.inl ((zPt_b (Jvm.Cond.and given_1 narrow_1) [true, true, false, true, false, false, true, true, false] hgv : Jvm.Cond.before (.not (.eq (.string RX3 120) (.string RX3 122))) #[Value.ref b] s = true))
      · rcases (show i = 0 ∨ i = 1 ∨ i = 2 ∨ i = 3 ∨ i = 4 ∨ i = 5 by omega) with rfl | rfl | rfl | rfl | rfl | rfl
        · exact Or.inl ((zPt_b (Jvm.Cond.and given_1 narrow_1) [true, true, false, true, true, false, true, false] hgv : Jvm.Cond.before (.not (.eq (.string RX3 113) (.string RX3 124))) #[Value.ref b] s = true))
        · exact Or.inl ((zPt_b (Jvm.Cond.and given_1 narrow_1) [true, true, false, true, true, false, true, true, false] hgv : Jvm.Cond.before (.not (.eq (.string RX3 114) (.string RX3 124))) #[Value.ref b] s = true))
        · exact Or.inl ((zPt_b (Jvm.Cond.and given_1 narrow_1) [true, true, false, true, true, false, true, true, true] hgv : Jvm.Cond.before (.not (.eq (.string RX3 116) (.string RX3 124))) #[Value.ref b] s = true))
        · exact Or.inl ((zPt_b (Jvm.Cond.and given_1 narrow_1) [true, true, false, true, true, true, false, false] hgv : Jvm.Cond.before (.not (.eq (.string RX3 118) (.string RX3 124))) #[Value.ref b] s = true))
        · exact Or.inl ((zPt_b (Jvm.Cond.and given_1 narrow_1) [true, true, false, true, true, true, false, true, false] hgv : Jvm.Cond.before (.not (.eq (.string RX3 120) (.string RX3 124))) #[Value.ref b] s = true))
        · exact Or.inl ((zPt_b (Jvm.Cond.and given_1 narrow_1) [true, true, false, true, true, true, false, true, true] hgv : Jvm.Cond.before (.not (.eq (.string RX3 122) (.string RX3 124))) #[Value.ref b] s = true))
      · rcases (show i = 0 ∨ i = 1 ∨ i = 2 ∨ i = 3 ∨ i = 4 ∨ i = 5 ∨ i = 6 by omega) with rfl | rfl | rfl | rfl | rfl | rfl | rfl
        · exact Or.inl ((zPt_b (Jvm.Cond.and given_1 narrow_1) [true, true, true, false, false, false, true, true, true] hgv : Jvm.Cond.before (.not (.eq (.string RX3 113) (.string RX3 126))) #[Value.ref b] s = true))
        · exact Or.inl ((zPt_b (Jvm.Cond.and given_1 narrow_1) [true, true, true, false, false, true, false, false] hgv : Jvm.Cond.before (.not (.eq (.string RX3 114) (.string RX3 126))) #[Value.ref b] s = true))
        · exact Or.inl ((zPt_b (Jvm.Cond.and given_1 narrow_1) [true, true, true, false, false, true, false, true, false] hgv : Jvm.Cond.before (.not (.eq (.string RX3 116) (.string RX3 126))) #[Value.ref b] s = true))
        · exact Or.inl ((zPt_b (Jvm.Cond.and given_1 narrow_1) [true, true, true, false, false, true, false, true, true] hgv : Jvm.Cond.before (.not (.eq (.string RX3 118) (.string RX3 126))) #[Value.ref b] s = true))
        · exact Or.inl ((zPt_b (Jvm.Cond.and given_1 narrow_1) [true, true, true, false, false, true, true, false] hgv : Jvm.Cond.before (.not (.eq (.string RX3 120) (.string RX3 126))) #[Value.ref b] s = true))
        · exact Or.inl ((zPt_b (Jvm.Cond.and given_1 narrow_1) [true, true, true, false, false, true, true, true, false] hgv : Jvm.Cond.before (.not (.eq (.string RX3 122) (.string RX3 126))) #[Value.ref b] s = true))
        · exact Or.inl ((zPt_b (Jvm.Cond.and given_1 narrow_1) [true, true, true, false, false, true, true, true, true] hgv : Jvm.Cond.before (.not (.eq (.string RX3 124) (.string RX3 126))) #[Value.ref b] s = true))
      · rcases (show i = 0 ∨ i = 1 ∨ i = 2 ∨ i = 3 ∨ i = 4 ∨ i = 5 ∨ i = 6 ∨ i = 7 by omega) with rfl | rfl | rfl | rfl | rfl | rfl | rfl | rfl
        · exact Or.inl ((zPt_b (Jvm.Cond.and given_1 narrow_1) [true, true, true, false, true, true, true, false] hgv : Jvm.Cond.before (.not (.eq (.string RX3 113) (.string RX3 128))) #[Value.ref b] s = true))
        · exact Or.inl ((zPt_b (Jvm.Cond.and given_1 narrow_1) [true, true, true, false, true, true, true, true, false] hgv : Jvm.Cond.before (.not (.eq (.string RX3 114) (.string RX3 128))) #[Value.ref b] s = true))
        · exact Or.inl ((zPt_b (Jvm.Cond.and given_1 narrow_1) [true, true, true, false, true, true, true, true, true] hgv : Jvm.Cond.before (.not (.eq (.string RX3 116) (.string RX3 128))) #[Value.ref b] s = true))
        · exact Or.inl ((zPt_b (Jvm.Cond.and given_1 narrow_1) [true, true, true, true, false, false, false, false] hgv : Jvm.Cond.before (.not (.eq (.string RX3 118) (.string RX3 128))) #[Value.ref b] s = true))
        · exact Or.inl ((zPt_b (Jvm.Cond.and given_1 narrow_1) [true, true, true, true, false, false, false, true] hgv : Jvm.Cond.before (.not (.eq (.string RX3 120) (.string RX3 128))) #[Value.ref b] s = true))
        · exact Or.inl ((zPt_b (Jvm.Cond.and given_1 narrow_1) [true, true, true, true, false, false, true, false] hgv : Jvm.Cond.before (.not (.eq (.string RX3 122) (.string RX3 128))) #[Value.ref b] s = true))
        · exact Or.inl ((zPt_b (Jvm.Cond.and given_1 narrow_1) [true, true, true, true, false, false, true, true, false] hgv : Jvm.Cond.before (.not (.eq (.string RX3 124) (.string RX3 128))) #[Value.ref b] s = true))
        · exact Or.inl ((zPt_b (Jvm.Cond.and given_1 narrow_1) [true, true, true, true, false, false, true, true, true] hgv : Jvm.Cond.before (.not (.eq (.string RX3 126) (.string RX3 128))) #[Value.ref b] s = true))
      · rcases (show i = 0 ∨ i = 1 ∨ i = 2 ∨ i = 3 ∨ i = 4 ∨ i = 5 ∨ i = 6 ∨ i = 7 ∨ i = 8 by omega) with rfl | rfl | rfl | rfl | rfl | rfl | rfl | rfl | rfl
        · exact Or.inl ((zPt_b (Jvm.Cond.and given_1 narrow_1) [true, true, true, true, true, false, false, false] hgv : Jvm.Cond.before (.not (.eq (.string RX3 113) (.string RX3 130))) #[Value.ref b] s = true))
        · exact Or.inl ((zPt_b (Jvm.Cond.and given_1 narrow_1) [true, true, true, true, true, false, false, true] hgv : Jvm.Cond.before (.not (.eq (.string RX3 114) (.string RX3 130))) #[Value.ref b] s = true))
        · exact Or.inl ((zPt_b (Jvm.Cond.and given_1 narrow_1) [true, true, true, true, true, false, true, false] hgv : Jvm.Cond.before (.not (.eq (.string RX3 116) (.string RX3 130))) #[Value.ref b] s = true))
        · exact Or.inl ((zPt_b (Jvm.Cond.and given_1 narrow_1) [true, true, true, true, true, false, true, true, false] hgv : Jvm.Cond.before (.not (.eq (.string RX3 118) (.string RX3 130))) #[Value.ref b] s = true))
        · exact Or.inl ((zPt_b (Jvm.Cond.and given_1 narrow_1) [true, true, true, true, true, false, true, true, true] hgv : Jvm.Cond.before (.not (.eq (.string RX3 120) (.string RX3 130))) #[Value.ref b] s = true))
        · exact Or.inl ((zPt_b (Jvm.Cond.and given_1 narrow_1) [true, true, true, true, true, true, false, false] hgv : Jvm.Cond.before (.not (.eq (.string RX3 122) (.string RX3 130))) #[Value.ref b] s = true))
        · exact Or.inl ((zPt_b (Jvm.Cond.and given_1 narrow_1) [true, true, true, true, true, true, false, true, false] hgv : Jvm.Cond.before (.not (.eq (.string RX3 124) (.string RX3 130))) #[Value.ref b] s = true))
        · exact Or.inl ((zPt_b (Jvm.Cond.and given_1 narrow_1) [true, true, true, true, true, true, false, true, true] hgv : Jvm.Cond.before (.not (.eq (.string RX3 126) (.string RX3 130))) #[Value.ref b] s = true))
        · exact Or.inl ((zPt_b (Jvm.Cond.and given_1 narrow_1) [true, true, true, true, true, true, true, false] hgv : Jvm.Cond.before (.not (.eq (.string RX3 128) (.string RX3 130))) #[Value.ref b] s = true))
    intro i j hi hj h
    rcases Nat.lt_or_gt_of_ne h with h1 | h1
    · exact hlt i j h1 hj
    · exact (hlt j i h1 hi).symm
  have hNl : ∀ i : Nat, i < 10 → zLen.getD i 0 < 2 ^ 31 := by decide
  obtain ⟨adK, adV, hS, hK⟩ := vk_Sof (tm := (fun i : Nat => Term.string RX3 (zEnt.getD i 0))) (A := (fun q : Nat => s.heap.size ≤ q)) hNl hex hco har hle hel hne hNA
  refine ⟨([], adK, adV), rfl, hS, fun i hi => vk_R.of (hsr i hi) (hK i hi), ?_, ?_⟩
  · exact va_Zof (hts (.laysStatic "java/lang/String" "COMPACT_STRINGS" "Z") zh_10) (hts (.initialized "java/lang/String") zh_11) (zt_eqi ((zPt_b (Jvm.Cond.and given_1 narrow_1) [true, false, false, false, true, false, true, false] hgv : Jvm.Cond.before (.eq (.static "java/lang/String" "COMPACT_STRINGS" "Z") (.int 1)) #[Value.ref b] s = true))) hNA
  · exact va_Zqof (hts (.laysStatic "jdk/internal/util/Preconditions" "SIOOBE_FORMATTER" "Ljava/util/function/BiFunction;") zh_12) (hts (.initialized "jdk/internal/util/Preconditions") zh_13) ((zPt_b (Jvm.Cond.and given_1 narrow_1) [true, false, false, false, true, false, true, true, false] hgv : Jvm.Cond.before (.isRef (.static "jdk/internal/util/Preconditions" "SIOOBE_FORMATTER" "Ljava/util/function/BiFunction;")) #[Value.ref b] s = true)) hNA

