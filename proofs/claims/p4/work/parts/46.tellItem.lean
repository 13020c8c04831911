theorem hi_X2_init_2 : ∀ w ∈ u_ws RX2 TX2 3, w ∈ wsX2_init := fun w h => (goodIn_r (u_ws RX2 TX2 3) [7, 8, 9] rfl (by decide +kernel) w h).1
set_option maxHeartbeats 4000000 in
set_option maxRecDepth 100000 in
theorem c_Pull_init (l : Launch) (D : va_G) (cI cJ cZ cP cS : ClassId) (po : zPool) (u0 : Nat) (ki a_ ta : Int32)  (hpz : Nat) : Met l yX2_init wsX2_init ({ frames := 1, cells := 0, slots := 0, locals := 12 }) (va_Pc [.ref u0, .int ki, .int a_, .int ta] (zW D (zKT cI cJ cZ cP cS) po [(u0, .inr (2, [.int 0, .int 0, .int 0]))] hpz)) (va_Qv (fun (_ : Unit) => True) (zB D [(u0, .inr (2, [.int 0, .int 0, .int 0]))] hpz (fun (_ : Unit) => [(u0, .inr (2, [.int ki, .int a_, .int ta]))])) (va_A [(u0, .inr (2, [.int 0, .int 0, .int 0]))] hpz)) 0 0 (va_A [(u0, .inr (2, [.int 0, .int 0, .int 0]))] hpz) := by
  refine Met.ofW (cc := cX2_init) (maxL := 4) (ret := none) (by decide) rfl ?_
  intro p e s m args below meth c s₁ B hml hv
  obtain ⟨rfl, hsz, hP, hK, hD0, hN, hZ⟩ := hv
  have hx := B.exec
  have hb := B.bytes
  have hr := B.returns
  have hts := atoms_spec (ws := wsX2_init) B.pre
  have hown : s.vm.findClass RX2 = some m.cls := findClass_of_methodNamed B.named
  have hlocks := B.notSynchronized
  have hin : meth.name = "<init>" := (name_of_methodNamed B.named B.method).1
  subst hsz
  have hD := hD0.self (sz := s.heap.size)
  have hA : ∀ q : Nat, s.heap.size ≤ q → va_A [(u0, .inr (2, [.int 0, .int 0, .int 0]))] s.heap.size q := fun q h => Or.inr h
  have hS : va_S (va_A [(u0, .inr (2, [.int 0, .int 0, .int 0]))] s.heap.size) s.heap s.heap [] := va_S.rf
  replace hP : va_P D vwCl _ s.heap := hP
  have hl := lv_entry ([.ref u0, .int ki, .int a_, .int ta]) (n := 4) (Nat.le_of_ble_eq_true rfl)
  rw [lg_entry_eq]
  generalize (lg_sl ([.ref u0, .int ki, .int a_, .int ta]) ++ List.replicate (4 - (lg_sl ([.ref u0, .int ki, .int a_, .int ta])).length) Slot.unset).toArray = ls at hl ⊢
  replace hl : lv_has ls 4 [(0, .ref u0), (1, .int ki), (2, .int a_), (3, .int ta)] := hl
  refine zw_start (fun H locs hH hL => ?_)
  replace hP : va_P D vwCl [(u0, .inr (2, [.int 0, .int 0, .int 0]))] H := by rw [hH]; exact hP
  replace hS : va_S (va_A [(u0, .inr (2, [.int 0, .int 0, .int 0]))] s.heap.size) s.heap H locs := by rw [hH, hL]; exact hS
  clear hH hL
  refine lv_aload_n hx hb dX2_init_0 rfl (lv_at hl 0 rfl) ?_
  refine W.objInit hx hb hown (hts (.methodLink RX2 3 objectInit) (List.mem_of_getElem? (i := 1) rfl)) (hts _ (List.mem_of_getElem? (i := 2) rfl)) (hts _ (List.mem_of_getElem? (i := 3) rfl)) rfl (by rw [hml]; exact hl.1) rfl dX2_init_1 (Nat.le_of_ble_eq_true rfl) (Nat.le_of_ble_eq_true rfl) ?_
  refine W.eq (g2 := F0 m 4 ls []) rfl ?_
  refine lv_aload_n hx hb dX2_init_4 rfl (lv_at hl 0 rfl) ?_
  refine lv_iload_n hx hb dX2_init_5 rfl (lv_at hl 1 rfl) ?_
  refine va_putF (D := D) (ci := 2) (v := .int ki) (ty := .int) (C := RX2) (T := TX2) (N := 3) hx hb hts hi_X2_init_2 tyX2 tyX2_ok nmX2 hown hK hP hD hS 0 rfl rfl 0 (by decide) (hts (.fieldLink RX2 9 "TheLiningsInIt$Pull" "kind" "I") (List.mem_of_getElem? (i := 4) rfl)) (fun _ h9 => h9) rfl hin rfl (by decide +kernel) rfl rfl (Nat.le_of_ble_eq_true rfl) dX2_init_6 (fun H locs hP hD hS => ?_)
  replace hP : va_P D vwCl [(u0, .inr (2, [.int ki, .int 0, .int 0]))] H := hP
  replace hD : va_D _ [(u0, .inr (2, [.int ki, .int 0, .int 0]))] := hD
  refine lv_aload_n hx hb dX2_init_9 rfl (lv_at hl 0 rfl) ?_
  refine lv_iload_n hx hb dX2_init_10 rfl (lv_at hl 2 rfl) ?_
  refine va_putF (D := D) (ci := 2) (v := .int a_) (ty := .int) (C := RX2) (T := TX2) (N := 3) hx hb hts hi_X2_init_2 tyX2 tyX2_ok nmX2 hown hK hP hD hS 0 rfl rfl 1 (by decide) (hts (.fieldLink RX2 15 "TheLiningsInIt$Pull" "a" "I") (List.mem_of_getElem? (i := 5) rfl)) (fun _ h9 => h9) rfl hin rfl (by decide +kernel) rfl rfl (Nat.le_of_ble_eq_true rfl) dX2_init_11 (fun H locs hP hD hS => ?_)
  replace hP : va_P D vwCl [(u0, .inr (2, [.int ki, .int a_, .int 0]))] H := hP
  replace hD : va_D _ [(u0, .inr (2, [.int ki, .int a_, .int 0]))] := hD
  refine lv_aload_n hx hb dX2_init_14 rfl (lv_at hl 0 rfl) ?_
  refine lv_iload_n hx hb dX2_init_15 rfl (lv_at hl 3 rfl) ?_
  refine va_putF (D := D) (ci := 2) (v := .int ta) (ty := .int) (C := RX2) (T := TX2) (N := 3) hx hb hts hi_X2_init_2 tyX2 tyX2_ok nmX2 hown hK hP hD hS 0 rfl rfl 2 (by decide) (hts (.fieldLink RX2 18 "TheLiningsInIt$Pull" "takes" "I") (List.mem_of_getElem? (i := 6) rfl)) (fun _ h9 => h9) rfl hin rfl (by decide +kernel) rfl rfl (Nat.le_of_ble_eq_true rfl) dX2_init_16 (fun H locs hP hD hS => ?_)
  replace hP : va_P D vwCl [(u0, .inr (2, [.int ki, .int a_, .int ta]))] H := hP
  replace hD : va_D _ [(u0, .inr (2, [.int ki, .int a_, .int ta]))] := hD
  exact W.vret hx hb hr (fun t ht hW => ⟨⟨(), rfl, trivial, by rw [ht]; exact hP.sub (ws' := [(u0, .inr (2, [.int ki, .int a_, .int ta]))]) [0] rfl, hD.sub (ws' := [(u0, .inr (2, [.int ki, .int a_, .int ta]))]) [0] (by decide) rfl⟩, hS.F ht⟩) hS.2.2 dX2_init_19
theorem hi_X0_addPull_0 : ∀ w ∈ u_ws RX0 TX0 9, w ∈ wsX0_addPull := fun w h => (goodIn_r (u_ws RX0 TX0 9) [15, 16, 17, 18, 19, 20, 21, 22, 23] rfl (by decide +kernel) w h).1
theorem hi_X0_addPull_2 : ∀ w ∈ u_ws RX2 TX2 3, w ∈ wsX0_addPull := fun w h => (goodIn_r (u_ws RX2 TX2 3) [24, 25, 26] rfl (by decide +kernel) w h).1
set_option maxHeartbeats 4000000 in
set_option maxRecDepth 100000 in
theorem c_J_addPull (l : Launch) (D : va_G) (cI cJ cZ cP cS : ClassId) (po : zPool) (j0 jp jc z0 zl zs : Nat) (cn de tr se hu sd : Int32) (fp : Nat → Option Nat) (kf af tf : Nat → Int32) (ki a_ ta : Int32) (hy0 : 0 ≤ cn.toInt) (hy1 : cn.toInt ≤ 8) (hy2 : 0 ≤ de.toInt) (hy3 : de.toInt ≤ 24) (hy4 : 0 ≤ hu.toInt) (hy5 : hu.toInt ≤ 9) (hy6 : 0 ≤ ki.toInt) (hy7 : ki.toInt ≤ 6) (hy8 : 0 ≤ a_.toInt) (hy9 : a_.toInt ≤ 9) (hy10 : 1 ≤ ta.toInt) (hy11 : ta.toInt ≤ 60) (hpz : Nat) : Met l yX0_addPull wsX0_addPull ({ frames := 2, cells := 1, slots := 3, locals := 35 }) (va_Pc [.ref j0, .int ki, .int a_, .int ta] (zW D (zKT cI cJ cZ cP cS) po [(j0, .inr (0, [.ref z0, .ref jp, .ref jc, .int cn, .int de, .int tr, .int se, .int hu, .int sd])), (jp, .inl (cP, 8, .inr (.inr (.inr (.inr fp)))))] hpz)) (va_Qi (fun (r : Int32) (u : (Int32) × (Nat → Option Nat) × (Nat → Int32) × (Nat → Int32) × (Nat → Int32) × (List (Nat × Int32 × Int32 × Int32))) => (0 ≤ u.1.toInt ∧ u.1.toInt ≤ 8) ∧ (∀ z ∈ u.2.2.2.2.2, zPr z.2.1 z.2.2.1 z.2.2.2) ∧ (zExt u.2.2.2.2.2 fp cn kf af tf u.2.1 u.1 u.2.2.1 u.2.2.2.1 u.2.2.2.2.1) ∧ (True)) (zB D [(j0, .inr (0, [.ref z0, .ref jp, .ref jc, .int cn, .int de, .int tr, .int se, .int hu, .int sd])), (jp, .inl (cP, 8, .inr (.inr (.inr (.inr fp)))))] hpz (fun (u : (Int32) × (Nat → Option Nat) × (Nat → Int32) × (Nat → Int32) × (Nat → Int32) × (List (Nat × Int32 × Int32 × Int32))) => ([(j0, .inr (0, [.ref z0, .ref jp, .ref jc, .int u.1, .int de, .int tr, .int se, .int hu, .int sd])), (jp, .inl (cP, 8, .inr (.inr (.inr (.inr u.2.1)))))] ++ u.2.2.2.2.2.map zPo))) (va_A [(j0, .inr (0, [.ref z0, .ref jp, .ref jc, .int cn, .int de, .int tr, .int se, .int hu, .int sd])), (jp, .inl (cP, 8, .inr (.inr (.inr (.inr fp)))))] hpz)) 1 3 (va_A [(j0, .inr (0, [.ref z0, .ref jp, .ref jc, .int cn, .int de, .int tr, .int se, .int hu, .int sd])), (jp, .inl (cP, 8, .inr (.inr (.inr (.inr fp)))))] hpz) := by
  refine Met.ofW (cc := cX0_addPull) (maxL := 4) (ret := (some .int)) (by decide) rfl ?_
  intro p e s m args below meth c s₁ B hml hv
  obtain ⟨rfl, hsz, hP, hK, hD0, hN, hZ⟩ := hv
  have hx := B.exec
  have hb := B.bytes
  have hr := B.returns
  have hts := atoms_spec (ws := wsX0_addPull) B.pre
  have hown : s.vm.findClass RX0 = some m.cls := findClass_of_methodNamed B.named
  have hlocks := B.notSynchronized
  subst hsz
  have hD := hD0.self (sz := s.heap.size)
  have hA : ∀ q : Nat, s.heap.size ≤ q → va_A [(j0, .inr (0, [.ref z0, .ref jp, .ref jc, .int cn, .int de, .int tr, .int se, .int hu, .int sd])), (jp, .inl (cP, 8, .inr (.inr (.inr (.inr fp)))))] s.heap.size q := fun q h => Or.inr h
  have hS : va_S (va_A [(j0, .inr (0, [.ref z0, .ref jp, .ref jc, .int cn, .int de, .int tr, .int se, .int hu, .int sd])), (jp, .inl (cP, 8, .inr (.inr (.inr (.inr fp)))))] s.heap.size) s.heap s.heap [] := va_S.rf
  replace hP : va_P D vwCl _ s.heap := hP
  have hl := lv_entry ([.ref j0, .int ki, .int a_, .int ta]) (n := 4) (Nat.le_of_ble_eq_true rfl)
  rw [lg_entry_eq]
  generalize (lg_sl ([.ref j0, .int ki, .int a_, .int ta]) ++ List.replicate (4 - (lg_sl ([.ref j0, .int ki, .int a_, .int ta])).length) Slot.unset).toArray = ls at hl ⊢
  replace hl : lv_has ls 4 [(0, .ref j0), (1, .int ki), (2, .int a_), (3, .int ta)] := hl
  refine zw_start (fun H locs hH hL => ?_)
  replace hP : va_P D vwCl [(j0, .inr (0, [.ref z0, .ref jp, .ref jc, .int cn, .int de, .int tr, .int se, .int hu, .int sd])), (jp, .inl (cP, 8, .inr (.inr (.inr (.inr fp)))))] H := by rw [hH]; exact hP
  replace hS : va_S (va_A [(j0, .inr (0, [.ref z0, .ref jp, .ref jc, .int cn, .int de, .int tr, .int se, .int hu, .int sd])), (jp, .inl (cP, 8, .inr (.inr (.inr (.inr fp)))))] s.heap.size) s.heap H locs := by rw [hH, hL]; exact hS
  clear hH hL
  refine lv_aload_n hx hb dX0_addPull_0 rfl (lv_at hl 0 rfl) ?_
  refine va_get (D := D) (ci := 0) (v := .int cn) (C := RX0) (T := TX0) (N := 9) hx hb hts hi_X0_addPull_0 hown hK hP 0 rfl rfl 3 (by decide) (hts (.fieldLink RX0 28 "TheLiningsInIt$Jacket" "pullCount" "I") (List.mem_of_getElem? (i := 1) rfl)) (fun _ h9 => h9) rfl dX0_addPull_1 ?_
  refine lv_bipush (v := 8) hx hb dX0_addPull_4 (by decide) ?_
  refine lv_icmp_lt (tgt := 11) hx hb dX0_addPull_6 (by decide) (fun c_1 => ?_) (fun c_1 => ?_)
  · have fc_1 : cn.toInt < 8 := zf_lt c_1 rfl (by decide)
    refine lv_aload_n hx hb dX0_addPull_11 rfl (lv_at hl 0 rfl) ?_
    refine va_get (D := D) (ci := 0) (v := .ref jp) (C := RX0) (T := TX0) (N := 9) hx hb hts hi_X0_addPull_0 hown hK hP 0 rfl rfl 1 (by decide) (hts (.fieldLink RX0 20 "TheLiningsInIt$Jacket" "pulls" "[LTheLiningsInIt$Pull;") (List.mem_of_getElem? (i := 2) rfl)) (fun _ h9 => h9) rfl dX0_addPull_12 ?_
    refine lv_aload_n hx hb dX0_addPull_15 rfl (lv_at hl 0 rfl) ?_
    refine va_get (D := D) (ci := 0) (v := .int cn) (C := RX0) (T := TX0) (N := 9) hx hb hts hi_X0_addPull_0 hown hK hP 0 rfl rfl 3 (by decide) (hts (.fieldLink RX0 28 "TheLiningsInIt$Jacket" "pullCount" "I") (List.mem_of_getElem? (i := 1) rfl)) (fun _ h9 => h9) rfl dX0_addPull_16 ?_
    refine va_new (ci := 2) (fs := [.int 0, .int 0, .int 0]) (C := RX2) (T := TX2) (N := 3) hx hb hts hi_X0_addPull_2 tyX2 tyX2_ok hown (hts (.classLink RX0 18 RX2) (List.mem_of_getElem? (i := 3) rfl)) (hts _ (List.mem_of_getElem? (i := 4) rfl)) (hts _ (List.mem_of_getElem? (i := 5) rfl)) hK hP hD hS hA rfl (fun j hj => by rcases (show j = 0 ∨ j = 1 ∨ j = 2 by omega) with rfl | rfl | rfl <;> rfl) (Nat.le_of_ble_eq_true rfl) (Nat.le_of_ble_eq_true rfl) dX0_addPull_19 (fun q_2 H hP hD hS => ?_)
    replace hP : va_P D vwCl [(j0, .inr (0, [.ref z0, .ref jp, .ref jc, .int cn, .int de, .int tr, .int se, .int hu, .int sd])), (jp, .inl (cP, 8, .inr (.inr (.inr (.inr fp))))), (q_2, .inr (2, [.int 0, .int 0, .int 0]))] H := hP
    replace hD : va_D _ [(j0, .inr (0, [.ref z0, .ref jp, .ref jc, .int cn, .int de, .int tr, .int se, .int hu, .int sd])), (jp, .inl (cP, 8, .inr (.inr (.inr (.inr fp))))), (q_2, .inr (2, [.int 0, .int 0, .int 0]))] := hD
    refine W.widen (k := 1) (n := 3) (Nat.le_of_ble_eq_true rfl) (Nat.le_of_ble_eq_true rfl) ?_
    refine lv_dup hx hb dX0_addPull_22 rfl ?_
    refine lv_iload_n hx hb dX0_addPull_23 rfl (lv_at hl 1 rfl) ?_
    refine lv_iload_n hx hb dX0_addPull_24 rfl (lv_at hl 2 rfl) ?_
    refine lv_iload_n hx hb dX0_addPull_25 rfl (lv_at hl 3 rfl) ?_
    skip
    refine zw_I (As := [.int ki, .int a_, .int ta]) (rest := [.ref q_2, .int cn, .ref jp]) (wr := [(j0, .inr (0, [.ref z0, .ref jp, .ref jc, .int cn, .int de, .int tr, .int se, .int hu, .int sd])), (jp, .inl (cP, 8, .inr (.inr (.inr (.inr fp)))))]) ⟨hx, hb, hml, hown, hts⟩ (c_Pull_init l D cI cJ cZ cP cS po q_2 (ki) (a_) (ta)  H.size) (cwI 3 hts gX0_addPull_X2_init rfl rfl rfl (hts _ (List.mem_of_getElem? (i := 5) rfl)) (hts (.methodLink RX0 70 yX2_init) (List.mem_of_getElem? (i := 6) rfl)) (hts _ (List.mem_of_getElem? (i := 7) rfl)) rfl (by decide +kernel) ⟨Nat.le_of_ble_eq_true rfl, Nat.le_of_ble_eq_true rfl⟩) hK hN (hZ.kept hS) hP hD hS hA [2] [0, 1] rfl rfl (by decide) (by decide) (by decide) rfl hl.1 rfl (Nat.le_of_ble_eq_true rfl) dX0_addPull_26 ⟨Nat.le_of_ble_eq_true rfl, Nat.le_of_ble_eq_true rfl⟩ (fun u_4 H locs hr_3 hP hD hS => ?_)
    replace hP : va_P D vwCl [(j0, .inr (0, [.ref z0, .ref jp, .ref jc, .int cn, .int de, .int tr, .int se, .int hu, .int sd])), (jp, .inl (cP, 8, .inr (.inr (.inr (.inr fp))))), (q_2, .inr (2, [.int ki, .int a_, .int ta]))] H := hP
    replace hD : va_D _ [(j0, .inr (0, [.ref z0, .ref jp, .ref jc, .int cn, .int de, .int tr, .int se, .int hu, .int sd])), (jp, .inl (cP, 8, .inr (.inr (.inr (.inr fp))))), (q_2, .inr (2, [.int ki, .int a_, .int ta]))] := hD
    refine va_astq hx hb hK hP hD hS 1 3 2 2 rfl rfl rfl rfl (zf_in (by omega) (by omega)) dX0_addPull_29 (fun H locs hP hD hS => ?_)
    replace hP : va_P D vwCl [(j0, .inr (0, [.ref z0, .ref jp, .ref jc, .int cn, .int de, .int tr, .int se, .int hu, .int sd])), (jp, .inl (cP, 8, .inr (.inr (.inr (.inr (va_up fp cn.toNatClampNeg (some q_2))))))), (q_2, .inr (2, [.int ki, .int a_, .int ta]))] H := hP
    replace hD : va_D _ [(j0, .inr (0, [.ref z0, .ref jp, .ref jc, .int cn, .int de, .int tr, .int se, .int hu, .int sd])), (jp, .inl (cP, 8, .inr (.inr (.inr (.inr (va_up fp cn.toNatClampNeg (some q_2))))))), (q_2, .inr (2, [.int ki, .int a_, .int ta]))] := hD
    refine lv_aload_n hx hb dX0_addPull_30 rfl (lv_at hl 0 rfl) ?_
    refine lv_dup hx hb dX0_addPull_31 rfl ?_
    refine va_get (D := D) (ci := 0) (v := .int cn) (C := RX0) (T := TX0) (N := 9) hx hb hts hi_X0_addPull_0 hown hK hP 0 rfl rfl 3 (by decide) (hts (.fieldLink RX0 28 "TheLiningsInIt$Jacket" "pullCount" "I") (List.mem_of_getElem? (i := 1) rfl)) (fun _ h9 => h9) rfl dX0_addPull_32 ?_
    refine lv_dup_x1 hx hb dX0_addPull_35 rfl rfl ?_
    refine lv_iconst (v := 1) hx hb dX0_addPull_36 (by decide) ?_
    refine lv_iadd hx hb dX0_addPull_37 ?_
    refine lv_topi (fun x_5 ex_5 => ?_)
    have qx_5 : x_5.toInt = cn.toInt + 1 := by rw [ex_5]; exact zf_add rfl (by decide) (by omega) (by omega)
    refine va_put (D := D) (ci := 0) (v := .int x_5) (ty := .int) (C := RX0) (T := TX0) (N := 9) hx hb hts hi_X0_addPull_0 tyX0 tyX0_ok nmX0 hown hK hP hD hS 0 rfl rfl 3 (by decide) (hts (.fieldLink RX0 28 "TheLiningsInIt$Jacket" "pullCount" "I") (List.mem_of_getElem? (i := 1) rfl)) (fun _ h9 => h9) rfl (by decide +kernel) rfl rfl (Nat.le_of_ble_eq_true rfl) dX0_addPull_38 (fun H locs hP hD hS => ?_)
    replace hP : va_P D vwCl [(j0, .inr (0, [.ref z0, .ref jp, .ref jc, .int x_5, .int de, .int tr, .int se, .int hu, .int sd])), (jp, .inl (cP, 8, .inr (.inr (.inr (.inr (va_up fp cn.toNatClampNeg (some q_2))))))), (q_2, .inr (2, [.int ki, .int a_, .int ta]))] H := hP
    replace hD : va_D _ [(j0, .inr (0, [.ref z0, .ref jp, .ref jc, .int x_5, .int de, .int tr, .int se, .int hu, .int sd])), (jp, .inl (cP, 8, .inr (.inr (.inr (.inr (va_up fp cn.toNatClampNeg (some q_2))))))), (q_2, .inr (2, [.int ki, .int a_, .int ta]))] := hD
    refine W.widen (k := 1) (n := 3) (Nat.le_of_ble_eq_true rfl) (Nat.le_of_ble_eq_true rfl) ?_
    exact W.iret (v := cn) hx hb hr (fun t ht hW => ⟨⟨cn, (x_5, (va_up fp cn.toNatClampNeg (some q_2)), (upd kf cn.toNatClampNeg ki), (upd af cn.toNatClampNeg a_), (upd tf cn.toNatClampNeg ta), [(q_2, (ki : Int32), (a_ : Int32), (ta : Int32))]), rfl, ⟨(show 0 ≤ x_5.toInt ∧ x_5.toInt ≤ 8 from ⟨by omega, by omega⟩), (by intro z hz; simp only [List.mem_cons, List.not_mem_nil, or_false] at hz; subst hz; exact ⟨⟨by omega, by omega⟩, ⟨by omega, by omega⟩, by omega, by omega⟩), (show zExt ([(q_2, (ki : Int32), (a_ : Int32), (ta : Int32))]) fp cn kf af tf (va_up fp cn.toNatClampNeg (some q_2)) x_5 (upd kf cn.toNatClampNeg ki) (upd af cn.toNatClampNeg a_) (upd tf cn.toNatClampNeg ta) from by first | exact zExt.refl | exact zExt_new (by omega) (by omega)), trivial⟩, by rw [ht]; exact hP.sub (ws' := [(j0, .inr (0, [.ref z0, .ref jp, .ref jc, .int x_5, .int de, .int tr, .int se, .int hu, .int sd])), (jp, .inl (cP, 8, .inr (.inr (.inr (.inr (va_up fp cn.toNatClampNeg (some q_2))))))), (q_2, .inr (2, [.int ki, .int a_, .int ta]))]) [0, 1, 2] rfl, hD.sub (ws' := [(j0, .inr (0, [.ref z0, .ref jp, .ref jc, .int x_5, .int de, .int tr, .int se, .int hu, .int sd])), (jp, .inl (cP, 8, .inr (.inr (.inr (.inr (va_up fp cn.toNatClampNeg (some q_2))))))), (q_2, .inr (2, [.int ki, .int a_, .int ta]))]) [0, 1, 2] (by decide) rfl⟩, hS.F ht⟩) hS.2.2 dX0_addPull_41
  · have fc_1 : 8 ≤ cn.toInt := zf_nlt c_1 rfl (by decide)
    refine lv_iconst (v := (-1)) hx hb dX0_addPull_9 (by decide) ?_
    refine W.widen (k := 1) (n := 3) (Nat.le_of_ble_eq_true rfl) (Nat.le_of_ble_eq_true rfl) ?_
    exact W.iret (v := (-1)) hx hb hr (fun t ht hW => ⟨⟨(-1), (cn, fp, kf, af, tf, []), rfl, ⟨(show 0 ≤ cn.toInt ∧ cn.toInt ≤ 8 from ⟨hy0, hy1⟩), (by intro z hz; simp at hz), (show zExt [] fp cn kf af tf fp cn kf af tf from by first | exact zExt.refl | exact zExt_new (by omega) (by omega)), trivial⟩, by rw [ht]; exact hP.sub (ws' := [(j0, .inr (0, [.ref z0, .ref jp, .ref jc, .int cn, .int de, .int tr, .int se, .int hu, .int sd])), (jp, .inl (cP, 8, .inr (.inr (.inr (.inr fp)))))]) [0, 1] rfl, hD.sub (ws' := [(j0, .inr (0, [.ref z0, .ref jp, .ref jc, .int cn, .int de, .int tr, .int se, .int hu, .int sd])), (jp, .inl (cP, 8, .inr (.inr (.inr (.inr fp)))))]) [0, 1] (by decide) rfl⟩, hS.F ht⟩) hS.2.2 dX0_addPull_10
theorem hi_X3_tellItem_3 : ∀ w ∈ u_ws RX3 TX3 8, w ∈ wsX3_tellItem := fun w h => (goodIn_r (u_ws RX3 TX3 8) [49, 50, 51, 52, 53, 54, 55, 56] rfl (by decide +kernel) w h).1
theorem hi_X3_tellItem_0 : ∀ w ∈ u_ws RX0 TX0 9, w ∈ wsX3_tellItem := fun w h => (goodIn_r (u_ws RX0 TX0 9) [57, 58, 59, 60, 61, 62, 63, 64, 65] rfl (by decide +kernel) w h).1
theorem hi_X3_tellItem_6 : ∀ w ∈ u_ws RX6 TX6 5, w ∈ wsX3_tellItem := fun w h => (goodIn_r (u_ws RX6 TX6 5) [66, 67, 68, 69, 70] rfl (by decide +kernel) w h).1
set_option maxHeartbeats 4000000 in
set_option maxRecDepth 100000 in
theorem c_R_tellItem (l : Launch) (D : va_G) (cI cJ cZ cP cS : ClassId) (po : zPool) (rd ri rl : Nat) (rz rc rp rf rt ru : Int32) (fi : Nat → Int32) (j0 jp jc z0 zl zs : Nat) (cn de tr se hu sd : Int32) (sz at_ gp : Int32) (fl fs : Nat → Int32) (fp : Nat → Option Nat) (kf af tf : Nat → Int32) (fc : Nat → Int32) (slot : Int32) (hy0 : 0 ≤ rz.toInt) (hy1 : rz.toInt ≤ 160) (hy2 : 0 ≤ rc.toInt) (hy3 : rc.toInt ≤ 40) (hy4 : 0 ≤ rp.toInt) (hy5 : rp.toInt ≤ 160) (hy6 : rp.toInt ≤ rz.toInt) (hy7 : (-1) ≤ rf.toInt) (hy8 : rf.toInt ≤ 160) (hy9 : 0 ≤ rt.toInt) (hy10 : rt.toInt ≤ 40) (hy11 : 0 ≤ ru.toInt) (hy12 : ru.toInt ≤ 8) (hy13 : 0 ≤ cn.toInt) (hy14 : cn.toInt ≤ 8) (hy15 : 0 ≤ de.toInt) (hy16 : de.toInt ≤ 24) (hy17 : 0 ≤ hu.toInt) (hy18 : hu.toInt ≤ 9) (hy19 : 4 ≤ sz.toInt) (hy20 : sz.toInt ≤ 40) (hy21 : 0 ≤ at_.toInt) (hy22 : at_.toInt ≤ 40) (hy23 : 1 ≤ gp.toInt) (hy24 : gp.toInt ≤ 9) (hy25 : 0 ≤ slot.toInt) (hy26 : slot.toInt ≤ 128) (hit : zIt fi slot.toInt.toNat) (hp_fl : zRg fl (0) 1) (hp_fs : zRg fs (0) 9) (hp_fc : zRg fc (0) 99) (hpz : Nat) : Met l yX3_tellItem wsX3_tellItem ({ frames := 3, cells := 1, slots := 3, locals := 58 }) (va_Pc [.ref rd, .ref j0, .int slot] (zW D (zKT cI cJ cZ cP cS) po [(rd, .inr (3, [.ref ri, .ref rl, .int rz, .int rc, .int rp, .int rf, .int rt, .int ru])), (ri, .inl (cI, 132, .inl fi)), (j0, .inr (0, [.ref z0, .ref jp, .ref jc, .int cn, .int de, .int tr, .int se, .int hu, .int sd])), (z0, .inr (6, [.ref zl, .ref zs, .int sz, .int at_, .int gp])), (zl, .inl (cZ, 40, .inl fl)), (zs, .inl (cI, 40, .inl fs)), (jp, .inl (cP, 8, .inr (.inr (.inr (.inr fp))))), (jc, .inl (cI, 3, .inl fc))] hpz)) (va_Qv (fun (u : (Int32) × (Int32) × (Int32) × (Int32) × (Int32) × (Int32) × (Nat → Int32) × (Nat → Int32) × (Nat → Int32) × (Int32) × (Nat → Option Nat) × (Nat → Int32) × (Nat → Int32) × (Nat → Int32) × (List (Nat × Int32 × Int32 × Int32))) => (0 ≤ u.1.toInt ∧ u.1.toInt ≤ 24) ∧ (0 ≤ u.2.2.1.toInt ∧ u.2.2.1.toInt ≤ 9) ∧ (4 ≤ u.2.2.2.1.toInt ∧ u.2.2.2.1.toInt ≤ 40) ∧ (0 ≤ u.2.2.2.2.1.toInt ∧ u.2.2.2.2.1.toInt ≤ 40) ∧ (1 ≤ u.2.2.2.2.2.1.toInt ∧ u.2.2.2.2.2.1.toInt ≤ 9) ∧ zRg u.2.2.2.2.2.2.1 (0) 1 ∧ zRg u.2.2.2.2.2.2.2.1 (0) 9 ∧ zRg u.2.2.2.2.2.2.2.2.1 (0) 99 ∧ (0 ≤ u.2.2.2.2.2.2.2.2.2.1.toInt ∧ u.2.2.2.2.2.2.2.2.2.1.toInt ≤ 8) ∧ (∀ z ∈ u.2.2.2.2.2.2.2.2.2.2.2.2.2.2, zPr z.2.1 z.2.2.1 z.2.2.2) ∧ (zExt u.2.2.2.2.2.2.2.2.2.2.2.2.2.2 fp cn kf af tf u.2.2.2.2.2.2.2.2.2.2.1 u.2.2.2.2.2.2.2.2.2.1 u.2.2.2.2.2.2.2.2.2.2.2.1 u.2.2.2.2.2.2.2.2.2.2.2.2.1 u.2.2.2.2.2.2.2.2.2.2.2.2.2.1) ∧ (True)) (zB D [(rd, .inr (3, [.ref ri, .ref rl, .int rz, .int rc, .int rp, .int rf, .int rt, .int ru])), (ri, .inl (cI, 132, .inl fi)), (j0, .inr (0, [.ref z0, .ref jp, .ref jc, .int cn, .int de, .int tr, .int se, .int hu, .int sd])), (z0, .inr (6, [.ref zl, .ref zs, .int sz, .int at_, .int gp])), (zl, .inl (cZ, 40, .inl fl)), (zs, .inl (cI, 40, .inl fs)), (jp, .inl (cP, 8, .inr (.inr (.inr (.inr fp))))), (jc, .inl (cI, 3, .inl fc))] hpz (fun (u : (Int32) × (Int32) × (Int32) × (Int32) × (Int32) × (Int32) × (Nat → Int32) × (Nat → Int32) × (Nat → Int32) × (Int32) × (Nat → Option Nat) × (Nat → Int32) × (Nat → Int32) × (Nat → Int32) × (List (Nat × Int32 × Int32 × Int32))) => ([(rd, .inr (3, [.ref ri, .ref rl, .int rz, .int rc, .int rp, .int rf, .int rt, .int ru])), (ri, .inl (cI, 132, .inl fi)), (j0, .inr (0, [.ref z0, .ref jp, .ref jc, .int u.2.2.2.2.2.2.2.2.2.1, .int u.1, .int tr, .int u.2.1, .int u.2.2.1, .int sd])), (z0, .inr (6, [.ref zl, .ref zs, .int u.2.2.2.1, .int u.2.2.2.2.1, .int u.2.2.2.2.2.1])), (zl, .inl (cZ, 40, .inl u.2.2.2.2.2.2.1)), (zs, .inl (cI, 40, .inl u.2.2.2.2.2.2.2.1)), (jp, .inl (cP, 8, .inr (.inr (.inr (.inr u.2.2.2.2.2.2.2.2.2.2.1))))), (jc, .inl (cI, 3, .inl u.2.2.2.2.2.2.2.2.1))] ++ u.2.2.2.2.2.2.2.2.2.2.2.2.2.2.map zPo))) (va_A [(rd, .inr (3, [.ref ri, .ref rl, .int rz, .int rc, .int rp, .int rf, .int rt, .int ru])), (ri, .inl (cI, 132, .inl fi)), (j0, .inr (0, [.ref z0, .ref jp, .ref jc, .int cn, .int de, .int tr, .int se, .int hu, .int sd])), (z0, .inr (6, [.ref zl, .ref zs, .int sz, .int at_, .int gp])), (zl, .inl (cZ, 40, .inl fl)), (zs, .inl (cI, 40, .inl fs)), (jp, .inl (cP, 8, .inr (.inr (.inr (.inr fp))))), (jc, .inl (cI, 3, .inl fc))] hpz)) 1 3 (va_A [(rd, .inr (3, [.ref ri, .ref rl, .int rz, .int rc, .int rp, .int rf, .int rt, .int ru])), (ri, .inl (cI, 132, .inl fi)), (j0, .inr (0, [.ref z0, .ref jp, .ref jc, .int cn, .int de, .int tr, .int se, .int hu, .int sd])), (z0, .inr (6, [.ref zl, .ref zs, .int sz, .int at_, .int gp])), (zl, .inl (cZ, 40, .inl fl)), (zs, .inl (cI, 40, .inl fs)), (jp, .inl (cP, 8, .inr (.inr (.inr (.inr fp))))), (jc, .inl (cI, 3, .inl fc))] hpz) := by
  refine Met.ofW (cc := cX3_tellItem) (maxL := 5) (ret := none) (by decide) rfl ?_
  intro p e s m args below meth c s₁ B hml hv
  obtain ⟨rfl, hsz, hP, hK, hD0, hN, hZ⟩ := hv
  have hx := B.exec
  have hb := B.bytes
  have hr := B.returns
  have hts := atoms_spec (ws := wsX3_tellItem) B.pre
  have hown : s.vm.findClass RX3 = some m.cls := findClass_of_methodNamed B.named
  have hlocks := B.notSynchronized
  subst hsz
  have hD := hD0.self (sz := s.heap.size)
  have hA : ∀ q : Nat, s.heap.size ≤ q → va_A [(rd, .inr (3, [.ref ri, .ref rl, .int rz, .int rc, .int rp, .int rf, .int rt, .int ru])), (ri, .inl (cI, 132, .inl fi)), (j0, .inr (0, [.ref z0, .ref jp, .ref jc, .int cn, .int de, .int tr, .int se, .int hu, .int sd])), (z0, .inr (6, [.ref zl, .ref zs, .int sz, .int at_, .int gp])), (zl, .inl (cZ, 40, .inl fl)), (zs, .inl (cI, 40, .inl fs)), (jp, .inl (cP, 8, .inr (.inr (.inr (.inr fp))))), (jc, .inl (cI, 3, .inl fc))] s.heap.size q := fun q h => Or.inr h
  have hS : va_S (va_A [(rd, .inr (3, [.ref ri, .ref rl, .int rz, .int rc, .int rp, .int rf, .int rt, .int ru])), (ri, .inl (cI, 132, .inl fi)), (j0, .inr (0, [.ref z0, .ref jp, .ref jc, .int cn, .int de, .int tr, .int se, .int hu, .int sd])), (z0, .inr (6, [.ref zl, .ref zs, .int sz, .int at_, .int gp])), (zl, .inl (cZ, 40, .inl fl)), (zs, .inl (cI, 40, .inl fs)), (jp, .inl (cP, 8, .inr (.inr (.inr (.inr fp))))), (jc, .inl (cI, 3, .inl fc))] s.heap.size) s.heap s.heap [] := va_S.rf
  replace hP : va_P D vwCl _ s.heap := hP
  have hl := lv_entry ([.ref rd, .ref j0, .int slot]) (n := 5) (Nat.le_of_ble_eq_true rfl)
  rw [lg_entry_eq]
  generalize (lg_sl ([.ref rd, .ref j0, .int slot]) ++ List.replicate (5 - (lg_sl ([.ref rd, .ref j0, .int slot])).length) Slot.unset).toArray = ls at hl ⊢
  replace hl : lv_has ls 5 [(0, .ref rd), (1, .ref j0), (2, .int slot)] := hl
  refine zw_start (fun H locs hH hL => ?_)
  replace hP : va_P D vwCl [(rd, .inr (3, [.ref ri, .ref rl, .int rz, .int rc, .int rp, .int rf, .int rt, .int ru])), (ri, .inl (cI, 132, .inl fi)), (j0, .inr (0, [.ref z0, .ref jp, .ref jc, .int cn, .int de, .int tr, .int se, .int hu, .int sd])), (z0, .inr (6, [.ref zl, .ref zs, .int sz, .int at_, .int gp])), (zl, .inl (cZ, 40, .inl fl)), (zs, .inl (cI, 40, .inl fs)), (jp, .inl (cP, 8, .inr (.inr (.inr (.inr fp))))), (jc, .inl (cI, 3, .inl fc))] H := by rw [hH]; exact hP
  replace hS : va_S (va_A [(rd, .inr (3, [.ref ri, .ref rl, .int rz, .int rc, .int rp, .int rf, .int rt, .int ru])), (ri, .inl (cI, 132, .inl fi)), (j0, .inr (0, [.ref z0, .ref jp, .ref jc, .int cn, .int de, .int tr, .int se, .int hu, .int sd])), (z0, .inr (6, [.ref zl, .ref zs, .int sz, .int at_, .int gp])), (zl, .inl (cZ, 40, .inl fl)), (zs, .inl (cI, 40, .inl fs)), (jp, .inl (cP, 8, .inr (.inr (.inr (.inr fp))))), (jc, .inl (cI, 3, .inl fc))] s.heap.size) s.heap H locs := by rw [hH, hL]; exact hS
  clear hH hL
  refine lv_aload_n hx hb dX3_tellItem_0 rfl (lv_at hl 0 rfl) ?_
  refine va_get (D := D) (ci := 3) (v := .ref ri) (C := RX3) (T := TX3) (N := 8) hx hb hts hi_X3_tellItem_3 hown hK hP 0 rfl rfl 0 (by decide) (hts (.fieldLink RX3 11 "TheLiningsInIt$Reader" "items" "[I") (List.mem_of_getElem? (i := 1) rfl)) (fun _ h9 => h9) rfl dX3_tellItem_1 ?_
  refine lv_iload_n hx hb dX3_tellItem_4 rfl (lv_at hl 2 rfl) ?_
  refine lv_iconst (v := 1) hx hb dX3_tellItem_5 (by decide) ?_
  refine lv_iadd hx hb dX3_tellItem_6 ?_
  refine lv_topi (fun x_1 ex_1 => ?_)
  have qx_1 : x_1.toInt = slot.toInt + 1 := by rw [ex_1]; exact zf_add rfl (by decide) (by omega) (by omega)
  refine va_iald hx hb hK hP 1 0 rfl rfl (zf_in (by omega) (by omega)) dX3_tellItem_7 ?_
  refine lv_topi (fun x_2 ex_2 => ?_)
  refine lv_istore_n (lv' := [(3, .int x_2), (0, .ref rd), (1, .ref j0), (2, .int slot)]) hx hb dX3_tellItem_8 rfl hl (by decide) rfl (fun ls hl => ?_)
  refine lv_aload_n hx hb dX3_tellItem_9 rfl (lv_at hl 1 rfl) ?_
  refine va_get (D := D) (ci := 3) (v := .ref ri) (C := RX3) (T := TX3) (N := 8) hx hb hts hi_X3_tellItem_3 hown hK hP 0 rfl rfl 0 (by decide) (hts (.fieldLink RX3 11 "TheLiningsInIt$Reader" "items" "[I") (List.mem_of_getElem? (i := 1) rfl)) (fun _ h9 => h9) rfl dX3_tellItem_10 ?_
  refine lv_iload_n hx hb dX3_tellItem_13 rfl (lv_at hl 3 rfl) ?_
  refine lv_iconst (v := 2) hx hb dX3_tellItem_14 (by decide) ?_
  refine lv_iadd hx hb dX3_tellItem_15 ?_
  refine lv_topi (fun x_3 ex_3 => ?_)
  have qx_3 : x_3.toInt = slot.toInt + 2 := by rw [ex_3]; exact zf_add rfl (by decide) (by omega) (by omega)
  refine va_iald hx hb hK hP 1 0 rfl rfl (zf_in (by omega) (by omega)) dX3_tellItem_16 ?_
  refine lv_topi (fun x_4 ex_4 => ?_)
  refine lv_istore (lv' := [(4, .int x_4), (3, .int x_2), (0, .ref rd), (1, .ref j0), (2, .int slot)]) hx hb dX3_tellItem_17 hl (by decide) rfl (fun ls hl => ?_)
  refine lv_aload_n hx hb dX3_tellItem_19 rfl (lv_at hl 2 rfl) ?_
  refine va_get (D := D) (ci := 3) (v := .ref ri) (C := RX3) (T := TX3) (N := 8) hx hb hts hi_X3_tellItem_3 hown hK hP 0 rfl rfl 0 (by decide) (hts (.fieldLink RX3 11 "TheLiningsInIt$Reader" "items" "[I") (List.mem_of_getElem? (i := 1) rfl)) (fun _ h9 => h9) rfl dX3_tellItem_20 ?_
  refine lv_iload_n hx hb dX3_tellItem_23 rfl (lv_at hl 4 rfl) ?_
  refine va_iald hx hb hK hP 1 0 rfl rfl (zf_in (by omega) (by omega)) dX3_tellItem_24 ?_
  refine lv_topi (fun x_5 ex_5 => ?_)
  have e0 : x_5 = fi slot.toInt.toNat := ex_5
  have e1 : x_2 = fi (slot.toInt.toNat + 1) := by rw [ex_2]; congr 1; (show x_1.toInt.toNat = _; omega)
  have e2 : x_4 = fi (slot.toInt.toNat + 2) := by rw [ex_4]; congr 1; (show x_3.toInt.toNat = _; omega)
  have hz9 := hit
  unfold zIt at hz9
  rw [← e0, ← e1, ← e2] at hz9
  unfold zItv at hz9
  have hsp : x_5 = 0 ∨ x_5 = 1 ∨ x_5 = 2 ∨ x_5 = 3 ∨ x_5 = 4 ∨ x_5 = 5 ∨ x_5 = 6 ∨ x_5 = 7 ∨ x_5 = 8 ∨ x_5 = 9 := by
    rcases (show x_5.toInt = 0 ∨ x_5.toInt = 1 ∨ x_5.toInt = 2 ∨ x_5.toInt = 3 ∨ x_5.toInt = 4 ∨ x_5.toInt = 5 ∨ x_5.toInt = 6 ∨ x_5.toInt = 7 ∨ x_5.toInt = 8 ∨ x_5.toInt = 9 by omega) with h9 | h9 | h9 | h9 | h9 | h9 | h9 | h9 | h9 | h9
    · refine Or.inl ?_; exact zf_val h9 (by decide)
    · refine Or.inr (Or.inl ?_); exact zf_val h9 (by decide)
    · refine Or.inr (Or.inr (Or.inl ?_)); exact zf_val h9 (by decide)
    · refine Or.inr (Or.inr (Or.inr (Or.inl ?_))); exact zf_val h9 (by decide)
    · refine Or.inr (Or.inr (Or.inr (Or.inr (Or.inl ?_)))); exact zf_val h9 (by decide)
    · refine Or.inr (Or.inr (Or.inr (Or.inr (Or.inr (Or.inl ?_))))); exact zf_val h9 (by decide)
    · refine Or.inr (Or.inr (Or.inr (Or.inr (Or.inr (Or.inr (Or.inl ?_)))))); exact zf_val h9 (by decide)
    · refine Or.inr (Or.inr (Or.inr (Or.inr (Or.inr (Or.inr (Or.inr (Or.inl ?_))))))); exact zf_val h9 (by decide)
    · refine Or.inr (Or.inr (Or.inr (Or.inr (Or.inr (Or.inr (Or.inr (Or.inr (Or.inl ?_)))))))); exact zf_val h9 (by decide)
    · refine Or.inr (Or.inr (Or.inr (Or.inr (Or.inr (Or.inr (Or.inr (Or.inr (Or.inr (?_))))))))); exact zf_val h9 (by decide)
  rcases hsp with rfl | rfl | rfl | rfl | rfl | rfl | rfl | rfl | rfl | rfl
  · have kc0 : (0 : Int32).toInt = 0 := by decide
    refine lv_tableIn (tgt := 80) hx hb dX3_tellItem_25 (by decide) (by decide) rfl (by decide) ?_
    refine lv_aload_n hx hb dX3_tellItem_80 rfl (lv_at hl 3 rfl) ?_
    refine va_get (D := D) (ci := 0) (v := .ref z0) (C := RX0) (T := TX0) (N := 9) hx hb hts hi_X3_tellItem_0 hown hK hP 2 rfl rfl 0 (by decide) (hts (.fieldLink RX3 136 "TheLiningsInIt$Jacket" "zip" "LTheLiningsInIt$Zip;") (List.mem_of_getElem? (i := 2) rfl)) (fun _ h9 => h9) rfl dX3_tellItem_81 ?_
    refine lv_iload_n hx hb dX3_tellItem_84 rfl (lv_at hl 1 rfl) ?_
    skip
    refine zw_Vv (As := [.int x_2]) (rest := []) (wr := [(rd, .inr (3, [.ref ri, .ref rl, .int rz, .int rc, .int rp, .int rf, .int rt, .int ru])), (ri, .inl (cI, 132, .inl fi)), (j0, .inr (0, [.ref z0, .ref jp, .ref jc, .int cn, .int de, .int tr, .int se, .int hu, .int sd])), (jp, .inl (cP, 8, .inr (.inr (.inr (.inr fp))))), (jc, .inl (cI, 3, .inl fc))]) ⟨hx, hb, hml, hown, hts⟩ (c_Zip_renew l D cI cJ cZ cP cS po z0 zl zs (sz) (at_) (gp) fl fs (x_2) hy19 hy20 hy21 hy22 hy23 hy24 (by omega) (by omega) hp_fl hp_fs H.size) (cwV 1 hts gX3_tellItem_X6_renew rfl rfl rfl (by decide +kernel) ⟨Nat.le_of_ble_eq_true rfl, Nat.le_of_ble_eq_true rfl⟩) hK hN (hZ.kept hS) hP hD hS hA [3, 4, 5] [0, 1, 2, 6, 7] rfl rfl (by decide) (by decide) (by decide) (va_recv hK hP (ci := 6) (q0 := 3) rfl rfl) rfl hl.1 rfl (Nat.le_of_ble_eq_true rfl) dX3_tellItem_85 ⟨Nat.le_of_ble_eq_true rfl, Nat.le_of_ble_eq_true rfl⟩ (fun u_7 H locs hr_6 hP hD hS => ?_)
    obtain ⟨q_8, q_9, q_10, q_11⟩ := u_7
    try dsimp only at hr_6
    obtain ⟨hbq_8, hbq_9, hpq_10, hpq_11, hr_6⟩ := hr_6
    replace hP : va_P D vwCl [(rd, .inr (3, [.ref ri, .ref rl, .int rz, .int rc, .int rp, .int rf, .int rt, .int ru])), (ri, .inl (cI, 132, .inl fi)), (j0, .inr (0, [.ref z0, .ref jp, .ref jc, .int cn, .int de, .int tr, .int se, .int hu, .int sd])), (jp, .inl (cP, 8, .inr (.inr (.inr (.inr fp))))), (jc, .inl (cI, 3, .inl fc)), (z0, .inr (6, [.ref zl, .ref zs, .int q_8, .int q_9, .int gp])), (zl, .inl (cZ, 40, .inl q_10)), (zs, .inl (cI, 40, .inl q_11))] H := hP
    replace hD : va_D _ [(rd, .inr (3, [.ref ri, .ref rl, .int rz, .int rc, .int rp, .int rf, .int rt, .int ru])), (ri, .inl (cI, 132, .inl fi)), (j0, .inr (0, [.ref z0, .ref jp, .ref jc, .int cn, .int de, .int tr, .int se, .int hu, .int sd])), (jp, .inl (cP, 8, .inr (.inr (.inr (.inr fp))))), (jc, .inl (cI, 3, .inl fc)), (z0, .inr (6, [.ref zl, .ref zs, .int q_8, .int q_9, .int gp])), (zl, .inl (cZ, 40, .inl q_10)), (zs, .inl (cI, 40, .inl q_11))] := hD
    refine lv_goto (tgt := 172) hx hb dX3_tellItem_88 (by decide) ?_
    refine W.widen (k := 1) (n := 3) (Nat.le_of_ble_eq_true rfl) (Nat.le_of_ble_eq_true rfl) ?_
    exact W.vret hx hb hr (fun t ht hW => ⟨⟨(de, se, hu, q_8, q_9, gp, q_10, q_11, fc, cn, fp, kf, af, tf, []), rfl, ⟨(show 0 ≤ de.toInt ∧ de.toInt ≤ 24 from ⟨hy15, hy16⟩), (show 0 ≤ hu.toInt ∧ hu.toInt ≤ 9 from ⟨hy17, hy18⟩), (show 4 ≤ q_8.toInt ∧ q_8.toInt ≤ 40 from hbq_8), (show 0 ≤ q_9.toInt ∧ q_9.toInt ≤ 40 from hbq_9), (show 1 ≤ gp.toInt ∧ gp.toInt ≤ 9 from ⟨hy23, hy24⟩), hpq_10, hpq_11, hp_fc, (show 0 ≤ cn.toInt ∧ cn.toInt ≤ 8 from ⟨hy13, hy14⟩), (by intro z hz; simp at hz), (show zExt [] fp cn kf af tf fp cn kf af tf from by first | exact zExt.refl | assumption), trivial⟩, by rw [ht]; exact hP.sub (ws' := [(rd, .inr (3, [.ref ri, .ref rl, .int rz, .int rc, .int rp, .int rf, .int rt, .int ru])), (ri, .inl (cI, 132, .inl fi)), (j0, .inr (0, [.ref z0, .ref jp, .ref jc, .int cn, .int de, .int tr, .int se, .int hu, .int sd])), (z0, .inr (6, [.ref zl, .ref zs, .int q_8, .int q_9, .int gp])), (zl, .inl (cZ, 40, .inl q_10)), (zs, .inl (cI, 40, .inl q_11)), (jp, .inl (cP, 8, .inr (.inr (.inr (.inr fp))))), (jc, .inl (cI, 3, .inl fc))]) [0, 1, 2, 5, 6, 7, 3, 4] rfl, hD.sub (ws' := [(rd, .inr (3, [.ref ri, .ref rl, .int rz, .int rc, .int rp, .int rf, .int rt, .int ru])), (ri, .inl (cI, 132, .inl fi)), (j0, .inr (0, [.ref z0, .ref jp, .ref jc, .int cn, .int de, .int tr, .int se, .int hu, .int sd])), (z0, .inr (6, [.ref zl, .ref zs, .int q_8, .int q_9, .int gp])), (zl, .inl (cZ, 40, .inl q_10)), (zs, .inl (cI, 40, .inl q_11)), (jp, .inl (cP, 8, .inr (.inr (.inr (.inr fp))))), (jc, .inl (cI, 3, .inl fc))]) [0, 1, 2, 5, 6, 7, 3, 4] (by decide) rfl⟩, hS.F ht⟩) hS.2.2 dX3_tellItem_172
  · have kc1 : (1 : Int32).toInt = 1 := by decide
    refine lv_tableIn (tgt := 91) hx hb dX3_tellItem_25 (by decide) (by decide) rfl (by decide) ?_
    refine lv_aload_n hx hb dX3_tellItem_91 rfl (lv_at hl 3 rfl) ?_
    refine va_get (D := D) (ci := 0) (v := .ref z0) (C := RX0) (T := TX0) (N := 9) hx hb hts hi_X3_tellItem_0 hown hK hP 2 rfl rfl 0 (by decide) (hts (.fieldLink RX3 136 "TheLiningsInIt$Jacket" "zip" "LTheLiningsInIt$Zip;") (List.mem_of_getElem? (i := 2) rfl)) (fun _ h9 => h9) rfl dX3_tellItem_92 ?_
    refine va_get (D := D) (ci := 6) (v := .ref zl) (C := RX6) (T := TX6) (N := 5) hx hb hts hi_X3_tellItem_6 hown hK hP 3 rfl rfl 0 (by decide) (hts (.fieldLink RX3 147 "TheLiningsInIt$Zip" "lacking" "[Z") (List.mem_of_getElem? (i := 3) rfl)) (fun _ h9 => h9) rfl dX3_tellItem_95 ?_
    refine lv_iload_n hx hb dX3_tellItem_98 rfl (lv_at hl 1 rfl) ?_
    refine lv_iconst (v := 1) hx hb dX3_tellItem_99 (by decide) ?_
    refine va_zast hx hb hK hP hD hS 4 2 rfl rfl (zf_in (by omega) (by omega)) dX3_tellItem_100 (fun H locs hP hD hS => ?_)
    rw [zNarZ (by decide) (by decide)] at hP hD
    have hpg_12 : zRg (upd fl x_2.toNatClampNeg 1) (0) 1 := zRg_upd hp_fl (by decide) (by decide)
    obtain ⟨g_12, hg_12⟩ : ∃ g : Nat → Int32, g = upd fl x_2.toNatClampNeg 1 := ⟨_, rfl⟩
    rw [← hg_12] at hP hD hpg_12
    clear hg_12
    replace hP : va_P D vwCl [(rd, .inr (3, [.ref ri, .ref rl, .int rz, .int rc, .int rp, .int rf, .int rt, .int ru])), (ri, .inl (cI, 132, .inl fi)), (j0, .inr (0, [.ref z0, .ref jp, .ref jc, .int cn, .int de, .int tr, .int se, .int hu, .int sd])), (z0, .inr (6, [.ref zl, .ref zs, .int sz, .int at_, .int gp])), (zl, .inl (cZ, 40, .inl g_12)), (zs, .inl (cI, 40, .inl fs)), (jp, .inl (cP, 8, .inr (.inr (.inr (.inr fp))))), (jc, .inl (cI, 3, .inl fc))] H := hP
    replace hD : va_D _ [(rd, .inr (3, [.ref ri, .ref rl, .int rz, .int rc, .int rp, .int rf, .int rt, .int ru])), (ri, .inl (cI, 132, .inl fi)), (j0, .inr (0, [.ref z0, .ref jp, .ref jc, .int cn, .int de, .int tr, .int se, .int hu, .int sd])), (z0, .inr (6, [.ref zl, .ref zs, .int sz, .int at_, .int gp])), (zl, .inl (cZ, 40, .inl g_12)), (zs, .inl (cI, 40, .inl fs)), (jp, .inl (cP, 8, .inr (.inr (.inr (.inr fp))))), (jc, .inl (cI, 3, .inl fc))] := hD
    refine lv_goto (tgt := 172) hx hb dX3_tellItem_101 (by decide) ?_
    refine W.widen (k := 1) (n := 3) (Nat.le_of_ble_eq_true rfl) (Nat.le_of_ble_eq_true rfl) ?_
    exact W.vret hx hb hr (fun t ht hW => ⟨⟨(de, se, hu, sz, at_, gp, g_12, fs, fc, cn, fp, kf, af, tf, []), rfl, ⟨(show 0 ≤ de.toInt ∧ de.toInt ≤ 24 from ⟨hy15, hy16⟩), (show 0 ≤ hu.toInt ∧ hu.toInt ≤ 9 from ⟨hy17, hy18⟩), (show 4 ≤ sz.toInt ∧ sz.toInt ≤ 40 from ⟨hy19, hy20⟩), (show 0 ≤ at_.toInt ∧ at_.toInt ≤ 40 from ⟨hy21, hy22⟩), (show 1 ≤ gp.toInt ∧ gp.toInt ≤ 9 from ⟨hy23, hy24⟩), hpg_12, hp_fs, hp_fc, (show 0 ≤ cn.toInt ∧ cn.toInt ≤ 8 from ⟨hy13, hy14⟩), (by intro z hz; simp at hz), (show zExt [] fp cn kf af tf fp cn kf af tf from by first | exact zExt.refl | assumption), trivial⟩, by rw [ht]; exact hP.sub (ws' := [(rd, .inr (3, [.ref ri, .ref rl, .int rz, .int rc, .int rp, .int rf, .int rt, .int ru])), (ri, .inl (cI, 132, .inl fi)), (j0, .inr (0, [.ref z0, .ref jp, .ref jc, .int cn, .int de, .int tr, .int se, .int hu, .int sd])), (z0, .inr (6, [.ref zl, .ref zs, .int sz, .int at_, .int gp])), (zl, .inl (cZ, 40, .inl g_12)), (zs, .inl (cI, 40, .inl fs)), (jp, .inl (cP, 8, .inr (.inr (.inr (.inr fp))))), (jc, .inl (cI, 3, .inl fc))]) [0, 1, 2, 3, 4, 5, 6, 7] rfl, hD.sub (ws' := [(rd, .inr (3, [.ref ri, .ref rl, .int rz, .int rc, .int rp, .int rf, .int rt, .int ru])), (ri, .inl (cI, 132, .inl fi)), (j0, .inr (0, [.ref z0, .ref jp, .ref jc, .int cn, .int de, .int tr, .int se, .int hu, .int sd])), (z0, .inr (6, [.ref zl, .ref zs, .int sz, .int at_, .int gp])), (zl, .inl (cZ, 40, .inl g_12)), (zs, .inl (cI, 40, .inl fs)), (jp, .inl (cP, 8, .inr (.inr (.inr (.inr fp))))), (jc, .inl (cI, 3, .inl fc))]) [0, 1, 2, 3, 4, 5, 6, 7] (by decide) rfl⟩, hS.F ht⟩) hS.2.2 dX3_tellItem_172
  · have kc2 : (2 : Int32).toInt = 2 := by decide
    refine lv_tableIn (tgt := 104) hx hb dX3_tellItem_25 (by decide) (by decide) rfl (by decide) ?_
    refine lv_aload_n hx hb dX3_tellItem_104 rfl (lv_at hl 3 rfl) ?_
    refine va_get (D := D) (ci := 0) (v := .ref z0) (C := RX0) (T := TX0) (N := 9) hx hb hts hi_X3_tellItem_0 hown hK hP 2 rfl rfl 0 (by decide) (hts (.fieldLink RX3 136 "TheLiningsInIt$Jacket" "zip" "LTheLiningsInIt$Zip;") (List.mem_of_getElem? (i := 2) rfl)) (fun _ h9 => h9) rfl dX3_tellItem_105 ?_
    refine va_get (D := D) (ci := 6) (v := .ref zs) (C := RX6) (T := TX6) (N := 5) hx hb hts hi_X3_tellItem_6 hown hK hP 3 rfl rfl 1 (by decide) (hts (.fieldLink RX3 151 "TheLiningsInIt$Zip" "slacks" "[I") (List.mem_of_getElem? (i := 4) rfl)) (fun _ h9 => h9) rfl dX3_tellItem_108 ?_
    refine lv_iload_n hx hb dX3_tellItem_111 rfl (lv_at hl 1 rfl) ?_
    refine lv_iload hx hb dX3_tellItem_112 (lv_at hl 0 rfl) ?_
    refine va_iast hx hb hK hP hD hS 5 0 rfl rfl (zf_in (by omega) (by omega)) dX3_tellItem_114 (fun H locs hP hD hS => ?_)
    have hpg_13 : zRg (upd fs x_2.toNatClampNeg x_4) (0) 9 := zRg_upd hp_fs (by omega) (by omega)
    obtain ⟨g_13, hg_13⟩ : ∃ g : Nat → Int32, g = upd fs x_2.toNatClampNeg x_4 := ⟨_, rfl⟩
    rw [← hg_13] at hP hD hpg_13
    clear hg_13
    replace hP : va_P D vwCl [(rd, .inr (3, [.ref ri, .ref rl, .int rz, .int rc, .int rp, .int rf, .int rt, .int ru])), (ri, .inl (cI, 132, .inl fi)), (j0, .inr (0, [.ref z0, .ref jp, .ref jc, .int cn, .int de, .int tr, .int se, .int hu, .int sd])), (z0, .inr (6, [.ref zl, .ref zs, .int sz, .int at_, .int gp])), (zl, .inl (cZ, 40, .inl fl)), (zs, .inl (cI, 40, .inl g_13)), (jp, .inl (cP, 8, .inr (.inr (.inr (.inr fp))))), (jc, .inl (cI, 3, .inl fc))] H := hP
    replace hD : va_D _ [(rd, .inr (3, [.ref ri, .ref rl, .int rz, .int rc, .int rp, .int rf, .int rt, .int ru])), (ri, .inl (cI, 132, .inl fi)), (j0, .inr (0, [.ref z0, .ref jp, .ref jc, .int cn, .int de, .int tr, .int se, .int hu, .int sd])), (z0, .inr (6, [.ref zl, .ref zs, .int sz, .int at_, .int gp])), (zl, .inl (cZ, 40, .inl fl)), (zs, .inl (cI, 40, .inl g_13)), (jp, .inl (cP, 8, .inr (.inr (.inr (.inr fp))))), (jc, .inl (cI, 3, .inl fc))] := hD
    refine lv_goto (tgt := 172) hx hb dX3_tellItem_115 (by decide) ?_
    refine W.widen (k := 1) (n := 3) (Nat.le_of_ble_eq_true rfl) (Nat.le_of_ble_eq_true rfl) ?_
    exact W.vret hx hb hr (fun t ht hW => ⟨⟨(de, se, hu, sz, at_, gp, fl, g_13, fc, cn, fp, kf, af, tf, []), rfl, ⟨(show 0 ≤ de.toInt ∧ de.toInt ≤ 24 from ⟨hy15, hy16⟩), (show 0 ≤ hu.toInt ∧ hu.toInt ≤ 9 from ⟨hy17, hy18⟩), (show 4 ≤ sz.toInt ∧ sz.toInt ≤ 40 from ⟨hy19, hy20⟩), (show 0 ≤ at_.toInt ∧ at_.toInt ≤ 40 from ⟨hy21, hy22⟩), (show 1 ≤ gp.toInt ∧ gp.toInt ≤ 9 from ⟨hy23, hy24⟩), hp_fl, hpg_13, hp_fc, (show 0 ≤ cn.toInt ∧ cn.toInt ≤ 8 from ⟨hy13, hy14⟩), (by intro z hz; simp at hz), (show zExt [] fp cn kf af tf fp cn kf af tf from by first | exact zExt.refl | assumption), trivial⟩, by rw [ht]; exact hP.sub (ws' := [(rd, .inr (3, [.ref ri, .ref rl, .int rz, .int rc, .int rp, .int rf, .int rt, .int ru])), (ri, .inl (cI, 132, .inl fi)), (j0, .inr (0, [.ref z0, .ref jp, .ref jc, .int cn, .int de, .int tr, .int se, .int hu, .int sd])), (z0, .inr (6, [.ref zl, .ref zs, .int sz, .int at_, .int gp])), (zl, .inl (cZ, 40, .inl fl)), (zs, .inl (cI, 40, .inl g_13)), (jp, .inl (cP, 8, .inr (.inr (.inr (.inr fp))))), (jc, .inl (cI, 3, .inl fc))]) [0, 1, 2, 3, 4, 5, 6, 7] rfl, hD.sub (ws' := [(rd, .inr (3, [.ref ri, .ref rl, .int rz, .int rc, .int rp, .int rf, .int rt, .int ru])), (ri, .inl (cI, 132, .inl fi)), (j0, .inr (0, [.ref z0, .ref jp, .ref jc, .int cn, .int de, .int tr, .int se, .int hu, .int sd])), (z0, .inr (6, [.ref zl, .ref zs, .int sz, .int at_, .int gp])), (zl, .inl (cZ, 40, .inl fl)), (zs, .inl (cI, 40, .inl g_13)), (jp, .inl (cP, 8, .inr (.inr (.inr (.inr fp))))), (jc, .inl (cI, 3, .inl fc))]) [0, 1, 2, 3, 4, 5, 6, 7] (by decide) rfl⟩, hS.F ht⟩) hS.2.2 dX3_tellItem_172
  · have kc3 : (3 : Int32).toInt = 3 := by decide
    refine lv_tableIn (tgt := 118) hx hb dX3_tellItem_25 (by decide) (by decide) rfl (by decide) ?_
    refine lv_aload_n hx hb dX3_tellItem_118 rfl (lv_at hl 3 rfl) ?_
    refine lv_iload_n hx hb dX3_tellItem_119 rfl (lv_at hl 1 rfl) ?_
    refine lv_iload hx hb dX3_tellItem_120 (lv_at hl 0 rfl) ?_
    refine lv_aload_n hx hb dX3_tellItem_122 rfl (lv_at hl 2 rfl) ?_
    refine va_get (D := D) (ci := 3) (v := .ref ri) (C := RX3) (T := TX3) (N := 8) hx hb hts hi_X3_tellItem_3 hown hK hP 0 rfl rfl 0 (by decide) (hts (.fieldLink RX3 11 "TheLiningsInIt$Reader" "items" "[I") (List.mem_of_getElem? (i := 1) rfl)) (fun _ h9 => h9) rfl dX3_tellItem_123 ?_
    refine lv_iload_n hx hb dX3_tellItem_126 rfl (lv_at hl 4 rfl) ?_
    refine lv_iconst (v := 3) hx hb dX3_tellItem_127 (by decide) ?_
    refine lv_iadd hx hb dX3_tellItem_128 ?_
    refine lv_topi (fun x_14 ex_14 => ?_)
    have qx_14 : x_14.toInt = slot.toInt + 3 := by rw [ex_14]; exact zf_add rfl (by decide) (by omega) (by omega)
    refine va_iald hx hb hK hP 1 0 rfl rfl (zf_in (by omega) (by omega)) dX3_tellItem_129 ?_
    refine lv_topi (fun x_15 ex_15 => ?_)
    have e3 : x_15 = fi (slot.toInt.toNat + 3) := by rw [ex_15]; congr 1; (show x_14.toInt.toNat = _; omega)
    rw [← e3] at hz9
    skip
    refine zw_V (As := [.int x_2, .int x_4, .int x_15]) (rest := []) (wr := [(rd, .inr (3, [.ref ri, .ref rl, .int rz, .int rc, .int rp, .int rf, .int rt, .int ru])), (ri, .inl (cI, 132, .inl fi)), (z0, .inr (6, [.ref zl, .ref zs, .int sz, .int at_, .int gp])), (zl, .inl (cZ, 40, .inl fl)), (zs, .inl (cI, 40, .inl fs)), (jc, .inl (cI, 3, .inl fc))]) ⟨hx, hb, hml, hown, hts⟩ (c_J_addPull l D cI cJ cZ cP cS po j0 jp jc z0 0 0 (cn) (de) (tr) (se) (hu) (sd) fp kf af tf (x_2) (x_4) (x_15) hy13 hy14 hy15 hy16 hy17 hy18 (by omega) (by omega) (by omega) (by omega) (by omega) (by omega) H.size) (cwV 3 hts gX3_tellItem_X0_addPull rfl rfl rfl (by decide +kernel) ⟨Nat.le_of_ble_eq_true rfl, Nat.le_of_ble_eq_true rfl⟩) hK hN (hZ.kept hS) hP hD hS hA [2, 6] [0, 1, 3, 4, 5, 7] rfl rfl (by decide) (by decide) (by decide) (va_recv hK hP (ci := 0) (q0 := 2) rfl rfl) rfl hl.1 rfl (Nat.le_of_ble_eq_true rfl) dX3_tellItem_130 ⟨Nat.le_of_ble_eq_true rfl, Nat.le_of_ble_eq_true rfl⟩ (fun r_16 u_17 H locs hr_16 hP hD hS => ?_)
    obtain ⟨q_18, q_19, q_20, q_21, q_22, q_23⟩ := u_17
    try dsimp only at hr_16
    obtain ⟨hbq_18, hnpq_23, hsr_16_0, hr_16⟩ := hr_16
    replace hP : va_P D vwCl ([(rd, .inr (3, [.ref ri, .ref rl, .int rz, .int rc, .int rp, .int rf, .int rt, .int ru])), (ri, .inl (cI, 132, .inl fi)), (z0, .inr (6, [.ref zl, .ref zs, .int sz, .int at_, .int gp])), (zl, .inl (cZ, 40, .inl fl)), (zs, .inl (cI, 40, .inl fs)), (jc, .inl (cI, 3, .inl fc)), (j0, .inr (0, [.ref z0, .ref jp, .ref jc, .int q_18, .int de, .int tr, .int se, .int hu, .int sd])), (jp, .inl (cP, 8, .inr (.inr (.inr (.inr q_19)))))] ++ (q_23.map zPo)) H := hP
    replace hD : va_D _ ([(rd, .inr (3, [.ref ri, .ref rl, .int rz, .int rc, .int rp, .int rf, .int rt, .int ru])), (ri, .inl (cI, 132, .inl fi)), (z0, .inr (6, [.ref zl, .ref zs, .int sz, .int at_, .int gp])), (zl, .inl (cZ, 40, .inl fl)), (zs, .inl (cI, 40, .inl fs)), (jc, .inl (cI, 3, .inl fc)), (j0, .inr (0, [.ref z0, .ref jp, .ref jc, .int q_18, .int de, .int tr, .int se, .int hu, .int sd])), (jp, .inl (cP, 8, .inr (.inr (.inr (.inr q_19)))))] ++ (q_23.map zPo)) := hD
    refine W.widen (k := 1) (n := 3) (Nat.le_of_ble_eq_true rfl) (Nat.le_of_ble_eq_true rfl) ?_
    refine lv_pop hx hb dX3_tellItem_133 rfl ?_
    refine lv_goto (tgt := 172) hx hb dX3_tellItem_134 (by decide) ?_
    refine W.widen (k := 1) (n := 3) (Nat.le_of_ble_eq_true rfl) (Nat.le_of_ble_eq_true rfl) ?_
    exact W.vret hx hb hr (fun t ht hW => ⟨⟨(de, se, hu, sz, at_, gp, fl, fs, fc, q_18, q_19, q_20, q_21, q_22, q_23), rfl, ⟨(show 0 ≤ de.toInt ∧ de.toInt ≤ 24 from ⟨hy15, hy16⟩), (show 0 ≤ hu.toInt ∧ hu.toInt ≤ 9 from ⟨hy17, hy18⟩), (show 4 ≤ sz.toInt ∧ sz.toInt ≤ 40 from ⟨hy19, hy20⟩), (show 0 ≤ at_.toInt ∧ at_.toInt ≤ 40 from ⟨hy21, hy22⟩), (show 1 ≤ gp.toInt ∧ gp.toInt ≤ 9 from ⟨hy23, hy24⟩), hp_fl, hp_fs, hp_fc, (show 0 ≤ q_18.toInt ∧ q_18.toInt ≤ 8 from hbq_18), hnpq_23, (show zExt q_23 fp cn kf af tf q_19 q_18 q_20 q_21 q_22 from by first | exact zExt.refl | assumption), trivial⟩, by rw [ht]; exact hP.part (cx := [(rd, .inr (3, [.ref ri, .ref rl, .int rz, .int rc, .int rp, .int rf, .int rt, .int ru])), (ri, .inl (cI, 132, .inl fi)), (j0, .inr (0, [.ref z0, .ref jp, .ref jc, .int q_18, .int de, .int tr, .int se, .int hu, .int sd])), (z0, .inr (6, [.ref zl, .ref zs, .int sz, .int at_, .int gp])), (zl, .inl (cZ, 40, .inl fl)), (zs, .inl (cI, 40, .inl fs)), (jp, .inl (cP, 8, .inr (.inr (.inr (.inr q_19))))), (jc, .inl (cI, 3, .inl fc))]) (pl := (q_23.map zPo)) [0, 1, 6, 2, 3, 4, 7, 5] rfl, hD.part (cx := [(rd, .inr (3, [.ref ri, .ref rl, .int rz, .int rc, .int rp, .int rf, .int rt, .int ru])), (ri, .inl (cI, 132, .inl fi)), (j0, .inr (0, [.ref z0, .ref jp, .ref jc, .int q_18, .int de, .int tr, .int se, .int hu, .int sd])), (z0, .inr (6, [.ref zl, .ref zs, .int sz, .int at_, .int gp])), (zl, .inl (cZ, 40, .inl fl)), (zs, .inl (cI, 40, .inl fs)), (jp, .inl (cP, 8, .inr (.inr (.inr (.inr q_19))))), (jc, .inl (cI, 3, .inl fc))]) (pl := (q_23.map zPo)) [0, 1, 6, 2, 3, 4, 7, 5] (by decide) rfl⟩, hS.F ht⟩) hS.2.2 dX3_tellItem_172
  · have kc4 : (4 : Int32).toInt = 4 := by decide
    refine lv_tableIn (tgt := 159) hx hb dX3_tellItem_25 (by decide) (by decide) rfl (by decide) ?_
    refine lv_aload_n hx hb dX3_tellItem_159 rfl (lv_at hl 3 rfl) ?_
    refine lv_aload_n hx hb dX3_tellItem_160 rfl (lv_at hl 2 rfl) ?_
    refine va_get (D := D) (ci := 3) (v := .ref ri) (C := RX3) (T := TX3) (N := 8) hx hb hts hi_X3_tellItem_3 hown hK hP 0 rfl rfl 0 (by decide) (hts (.fieldLink RX3 11 "TheLiningsInIt$Reader" "items" "[I") (List.mem_of_getElem? (i := 1) rfl)) (fun _ h9 => h9) rfl dX3_tellItem_161 ?_
    refine lv_iload_n hx hb dX3_tellItem_164 rfl (lv_at hl 4 rfl) ?_
    refine va_iald hx hb hK hP 1 0 rfl rfl (zf_in (by omega) (by omega)) dX3_tellItem_165 ?_
    refine lv_topi (fun y_24 ey_24 => ?_)
    obtain rfl : y_24 = 4 := ey_24.trans ex_5.symm
    refine lv_iconst (v := 4) hx hb dX3_tellItem_166 (by decide) ?_
    refine lv_isub hx hb dX3_tellItem_167 ?_
    refine lv_topi (fun y_25 ey_25 => ?_)
    obtain rfl : y_25 = 0 := ey_25.trans (by decide)
    refine lv_iload_n hx hb dX3_tellItem_168 rfl (lv_at hl 1 rfl) ?_
    have kc0 : (0 : Int32).toInt = 0 := by decide
    skip
    refine zw_Vv (As := [.int 0, .int x_2]) (rest := []) (wr := [(rd, .inr (3, [.ref ri, .ref rl, .int rz, .int rc, .int rp, .int rf, .int rt, .int ru])), (ri, .inl (cI, 132, .inl fi)), (zl, .inl (cZ, 40, .inl fl)), (zs, .inl (cI, 40, .inl fs)), (jp, .inl (cP, 8, .inr (.inr (.inr (.inr fp)))))]) ⟨hx, hb, hml, hown, hts⟩ (c_J_setNumber l D cI cJ cZ cP cS po j0 jp jc z0 zl zs (cn) (de) (tr) (se) (hu) (sd) (sz) (at_) (gp) fc (0) (x_2) hy13 hy14 hy15 hy16 hy17 hy18 hy19 hy20 hy21 hy22 hy23 hy24 (by omega) (by omega) (by omega) hp_fc H.size) (cwV 2 hts gX3_tellItem_X0_setNumber rfl rfl rfl (by decide +kernel) ⟨Nat.le_of_ble_eq_true rfl, Nat.le_of_ble_eq_true rfl⟩) hK hN (hZ.kept hS) hP hD hS hA [2, 3, 7] [0, 1, 4, 5, 6] rfl rfl (by decide) (by decide) (by decide) (va_recv hK hP (ci := 0) (q0 := 2) rfl rfl) rfl hl.1 rfl (Nat.le_of_ble_eq_true rfl) dX3_tellItem_169 ⟨Nat.le_of_ble_eq_true rfl, Nat.le_of_ble_eq_true rfl⟩ (fun u_27 H locs hr_26 hP hD hS => ?_)
    obtain ⟨q_28, q_29, q_30, q_31, q_32, q_33⟩ := u_27
    try dsimp only at hr_26
    obtain ⟨hbq_28, hbq_30, hbq_31, hbq_32, hpq_33, hr_26⟩ := hr_26
    replace hP : va_P D vwCl [(rd, .inr (3, [.ref ri, .ref rl, .int rz, .int rc, .int rp, .int rf, .int rt, .int ru])), (ri, .inl (cI, 132, .inl fi)), (zl, .inl (cZ, 40, .inl fl)), (zs, .inl (cI, 40, .inl fs)), (jp, .inl (cP, 8, .inr (.inr (.inr (.inr fp))))), (j0, .inr (0, [.ref z0, .ref jp, .ref jc, .int cn, .int q_28, .int tr, .int q_29, .int q_30, .int sd])), (z0, .inr (6, [.ref zl, .ref zs, .int sz, .int q_31, .int q_32])), (jc, .inl (cI, 3, .inl q_33))] H := hP
    replace hD : va_D _ [(rd, .inr (3, [.ref ri, .ref rl, .int rz, .int rc, .int rp, .int rf, .int rt, .int ru])), (ri, .inl (cI, 132, .inl fi)), (zl, .inl (cZ, 40, .inl fl)), (zs, .inl (cI, 40, .inl fs)), (jp, .inl (cP, 8, .inr (.inr (.inr (.inr fp))))), (j0, .inr (0, [.ref z0, .ref jp, .ref jc, .int cn, .int q_28, .int tr, .int q_29, .int q_30, .int sd])), (z0, .inr (6, [.ref zl, .ref zs, .int sz, .int q_31, .int q_32])), (jc, .inl (cI, 3, .inl q_33))] := hD
    refine W.widen (k := 1) (n := 3) (Nat.le_of_ble_eq_true rfl) (Nat.le_of_ble_eq_true rfl) ?_
    exact W.vret hx hb hr (fun t ht hW => ⟨⟨(q_28, q_29, q_30, sz, q_31, q_32, fl, fs, q_33, cn, fp, kf, af, tf, []), rfl, ⟨(show 0 ≤ q_28.toInt ∧ q_28.toInt ≤ 24 from hbq_28), (show 0 ≤ q_30.toInt ∧ q_30.toInt ≤ 9 from hbq_30), (show 4 ≤ sz.toInt ∧ sz.toInt ≤ 40 from ⟨hy19, hy20⟩), (show 0 ≤ q_31.toInt ∧ q_31.toInt ≤ 40 from hbq_31), (show 1 ≤ q_32.toInt ∧ q_32.toInt ≤ 9 from hbq_32), hp_fl, hp_fs, hpq_33, (show 0 ≤ cn.toInt ∧ cn.toInt ≤ 8 from ⟨hy13, hy14⟩), (by intro z hz; simp at hz), (show zExt [] fp cn kf af tf fp cn kf af tf from by first | exact zExt.refl | assumption), trivial⟩, by rw [ht]; exact hP.sub (ws' := [(rd, .inr (3, [.ref ri, .ref rl, .int rz, .int rc, .int rp, .int rf, .int rt, .int ru])), (ri, .inl (cI, 132, .inl fi)), (j0, .inr (0, [.ref z0, .ref jp, .ref jc, .int cn, .int q_28, .int tr, .int q_29, .int q_30, .int sd])), (z0, .inr (6, [.ref zl, .ref zs, .int sz, .int q_31, .int q_32])), (zl, .inl (cZ, 40, .inl fl)), (zs, .inl (cI, 40, .inl fs)), (jp, .inl (cP, 8, .inr (.inr (.inr (.inr fp))))), (jc, .inl (cI, 3, .inl q_33))]) [0, 1, 5, 6, 2, 3, 4, 7] rfl, hD.sub (ws' := [(rd, .inr (3, [.ref ri, .ref rl, .int rz, .int rc, .int rp, .int rf, .int rt, .int ru])), (ri, .inl (cI, 132, .inl fi)), (j0, .inr (0, [.ref z0, .ref jp, .ref jc, .int cn, .int q_28, .int tr, .int q_29, .int q_30, .int sd])), (z0, .inr (6, [.ref zl, .ref zs, .int sz, .int q_31, .int q_32])), (zl, .inl (cZ, 40, .inl fl)), (zs, .inl (cI, 40, .inl fs)), (jp, .inl (cP, 8, .inr (.inr (.inr (.inr fp))))), (jc, .inl (cI, 3, .inl q_33))]) [0, 1, 5, 6, 2, 3, 4, 7] (by decide) rfl⟩, hS.F ht⟩) hS.2.2 dX3_tellItem_172
  · have kc5 : (5 : Int32).toInt = 5 := by decide
    refine lv_tableIn (tgt := 159) hx hb dX3_tellItem_25 (by decide) (by decide) rfl (by decide) ?_
    refine lv_aload_n hx hb dX3_tellItem_159 rfl (lv_at hl 3 rfl) ?_
    refine lv_aload_n hx hb dX3_tellItem_160 rfl (lv_at hl 2 rfl) ?_
    refine va_get (D := D) (ci := 3) (v := .ref ri) (C := RX3) (T := TX3) (N := 8) hx hb hts hi_X3_tellItem_3 hown hK hP 0 rfl rfl 0 (by decide) (hts (.fieldLink RX3 11 "TheLiningsInIt$Reader" "items" "[I") (List.mem_of_getElem? (i := 1) rfl)) (fun _ h9 => h9) rfl dX3_tellItem_161 ?_
    refine lv_iload_n hx hb dX3_tellItem_164 rfl (lv_at hl 4 rfl) ?_
    refine va_iald hx hb hK hP 1 0 rfl rfl (zf_in (by omega) (by omega)) dX3_tellItem_165 ?_
    refine lv_topi (fun y_34 ey_34 => ?_)
    obtain rfl : y_34 = 5 := ey_34.trans ex_5.symm
    refine lv_iconst (v := 4) hx hb dX3_tellItem_166 (by decide) ?_
    refine lv_isub hx hb dX3_tellItem_167 ?_
    refine lv_topi (fun y_35 ey_35 => ?_)
    obtain rfl : y_35 = 1 := ey_35.trans (by decide)
    refine lv_iload_n hx hb dX3_tellItem_168 rfl (lv_at hl 1 rfl) ?_
    have kc1 : (1 : Int32).toInt = 1 := by decide
    skip
    refine zw_Vv (As := [.int 1, .int x_2]) (rest := []) (wr := [(rd, .inr (3, [.ref ri, .ref rl, .int rz, .int rc, .int rp, .int rf, .int rt, .int ru])), (ri, .inl (cI, 132, .inl fi)), (zl, .inl (cZ, 40, .inl fl)), (zs, .inl (cI, 40, .inl fs)), (jp, .inl (cP, 8, .inr (.inr (.inr (.inr fp)))))]) ⟨hx, hb, hml, hown, hts⟩ (c_J_setNumber l D cI cJ cZ cP cS po j0 jp jc z0 zl zs (cn) (de) (tr) (se) (hu) (sd) (sz) (at_) (gp) fc (1) (x_2) hy13 hy14 hy15 hy16 hy17 hy18 hy19 hy20 hy21 hy22 hy23 hy24 (by omega) (by omega) (by omega) hp_fc H.size) (cwV 2 hts gX3_tellItem_X0_setNumber rfl rfl rfl (by decide +kernel) ⟨Nat.le_of_ble_eq_true rfl, Nat.le_of_ble_eq_true rfl⟩) hK hN (hZ.kept hS) hP hD hS hA [2, 3, 7] [0, 1, 4, 5, 6] rfl rfl (by decide) (by decide) (by decide) (va_recv hK hP (ci := 0) (q0 := 2) rfl rfl) rfl hl.1 rfl (Nat.le_of_ble_eq_true rfl) dX3_tellItem_169 ⟨Nat.le_of_ble_eq_true rfl, Nat.le_of_ble_eq_true rfl⟩ (fun u_37 H locs hr_36 hP hD hS => ?_)
    obtain ⟨q_38, q_39, q_40, q_41, q_42, q_43⟩ := u_37
    try dsimp only at hr_36
    obtain ⟨hbq_38, hbq_40, hbq_41, hbq_42, hpq_43, hr_36⟩ := hr_36
    replace hP : va_P D vwCl [(rd, .inr (3, [.ref ri, .ref rl, .int rz, .int rc, .int rp, .int rf, .int rt, .int ru])), (ri, .inl (cI, 132, .inl fi)), (zl, .inl (cZ, 40, .inl fl)), (zs, .inl (cI, 40, .inl fs)), (jp, .inl (cP, 8, .inr (.inr (.inr (.inr fp))))), (j0, .inr (0, [.ref z0, .ref jp, .ref jc, .int cn, .int q_38, .int tr, .int q_39, .int q_40, .int sd])), (z0, .inr (6, [.ref zl, .ref zs, .int sz, .int q_41, .int q_42])), (jc, .inl (cI, 3, .inl q_43))] H := hP
    replace hD : va_D _ [(rd, .inr (3, [.ref ri, .ref rl, .int rz, .int rc, .int rp, .int rf, .int rt, .int ru])), (ri, .inl (cI, 132, .inl fi)), (zl, .inl (cZ, 40, .inl fl)), (zs, .inl (cI, 40, .inl fs)), (jp, .inl (cP, 8, .inr (.inr (.inr (.inr fp))))), (j0, .inr (0, [.ref z0, .ref jp, .ref jc, .int cn, .int q_38, .int tr, .int q_39, .int q_40, .int sd])), (z0, .inr (6, [.ref zl, .ref zs, .int sz, .int q_41, .int q_42])), (jc, .inl (cI, 3, .inl q_43))] := hD
    refine W.widen (k := 1) (n := 3) (Nat.le_of_ble_eq_true rfl) (Nat.le_of_ble_eq_true rfl) ?_
    exact W.vret hx hb hr (fun t ht hW => ⟨⟨(q_38, q_39, q_40, sz, q_41, q_42, fl, fs, q_43, cn, fp, kf, af, tf, []), rfl, ⟨(show 0 ≤ q_38.toInt ∧ q_38.toInt ≤ 24 from hbq_38), (show 0 ≤ q_40.toInt ∧ q_40.toInt ≤ 9 from hbq_40), (show 4 ≤ sz.toInt ∧ sz.toInt ≤ 40 from ⟨hy19, hy20⟩), (show 0 ≤ q_41.toInt ∧ q_41.toInt ≤ 40 from hbq_41), (show 1 ≤ q_42.toInt ∧ q_42.toInt ≤ 9 from hbq_42), hp_fl, hp_fs, hpq_43, (show 0 ≤ cn.toInt ∧ cn.toInt ≤ 8 from ⟨hy13, hy14⟩), (by intro z hz; simp at hz), (show zExt [] fp cn kf af tf fp cn kf af tf from by first | exact zExt.refl | assumption), trivial⟩, by rw [ht]; exact hP.sub (ws' := [(rd, .inr (3, [.ref ri, .ref rl, .int rz, .int rc, .int rp, .int rf, .int rt, .int ru])), (ri, .inl (cI, 132, .inl fi)), (j0, .inr (0, [.ref z0, .ref jp, .ref jc, .int cn, .int q_38, .int tr, .int q_39, .int q_40, .int sd])), (z0, .inr (6, [.ref zl, .ref zs, .int sz, .int q_41, .int q_42])), (zl, .inl (cZ, 40, .inl fl)), (zs, .inl (cI, 40, .inl fs)), (jp, .inl (cP, 8, .inr (.inr (.inr (.inr fp))))), (jc, .inl (cI, 3, .inl q_43))]) [0, 1, 5, 6, 2, 3, 4, 7] rfl, hD.sub (ws' := [(rd, .inr (3, [.ref ri, .ref rl, .int rz, .int rc, .int rp, .int rf, .int rt, .int ru])), (ri, .inl (cI, 132, .inl fi)), (j0, .inr (0, [.ref z0, .ref jp, .ref jc, .int cn, .int q_38, .int tr, .int q_39, .int q_40, .int sd])), (z0, .inr (6, [.ref zl, .ref zs, .int sz, .int q_41, .int q_42])), (zl, .inl (cZ, 40, .inl fl)), (zs, .inl (cI, 40, .inl fs)), (jp, .inl (cP, 8, .inr (.inr (.inr (.inr fp))))), (jc, .inl (cI, 3, .inl q_43))]) [0, 1, 5, 6, 2, 3, 4, 7] (by decide) rfl⟩, hS.F ht⟩) hS.2.2 dX3_tellItem_172
  · have kc6 : (6 : Int32).toInt = 6 := by decide
    refine lv_tableIn (tgt := 159) hx hb dX3_tellItem_25 (by decide) (by decide) rfl (by decide) ?_
    refine lv_aload_n hx hb dX3_tellItem_159 rfl (lv_at hl 3 rfl) ?_
    refine lv_aload_n hx hb dX3_tellItem_160 rfl (lv_at hl 2 rfl) ?_
    refine va_get (D := D) (ci := 3) (v := .ref ri) (C := RX3) (T := TX3) (N := 8) hx hb hts hi_X3_tellItem_3 hown hK hP 0 rfl rfl 0 (by decide) (hts (.fieldLink RX3 11 "TheLiningsInIt$Reader" "items" "[I") (List.mem_of_getElem? (i := 1) rfl)) (fun _ h9 => h9) rfl dX3_tellItem_161 ?_
    refine lv_iload_n hx hb dX3_tellItem_164 rfl (lv_at hl 4 rfl) ?_
    refine va_iald hx hb hK hP 1 0 rfl rfl (zf_in (by omega) (by omega)) dX3_tellItem_165 ?_
    refine lv_topi (fun y_44 ey_44 => ?_)
    obtain rfl : y_44 = 6 := ey_44.trans ex_5.symm
    refine lv_iconst (v := 4) hx hb dX3_tellItem_166 (by decide) ?_
    refine lv_isub hx hb dX3_tellItem_167 ?_
    refine lv_topi (fun y_45 ey_45 => ?_)
    obtain rfl : y_45 = 2 := ey_45.trans (by decide)
    refine lv_iload_n hx hb dX3_tellItem_168 rfl (lv_at hl 1 rfl) ?_
    have kc2 : (2 : Int32).toInt = 2 := by decide
    skip
    refine zw_Vv (As := [.int 2, .int x_2]) (rest := []) (wr := [(rd, .inr (3, [.ref ri, .ref rl, .int rz, .int rc, .int rp, .int rf, .int rt, .int ru])), (ri, .inl (cI, 132, .inl fi)), (zl, .inl (cZ, 40, .inl fl)), (zs, .inl (cI, 40, .inl fs)), (jp, .inl (cP, 8, .inr (.inr (.inr (.inr fp)))))]) ⟨hx, hb, hml, hown, hts⟩ (c_J_setNumber l D cI cJ cZ cP cS po j0 jp jc z0 zl zs (cn) (de) (tr) (se) (hu) (sd) (sz) (at_) (gp) fc (2) (x_2) hy13 hy14 hy15 hy16 hy17 hy18 hy19 hy20 hy21 hy22 hy23 hy24 (by omega) (by omega) (by omega) hp_fc H.size) (cwV 2 hts gX3_tellItem_X0_setNumber rfl rfl rfl (by decide +kernel) ⟨Nat.le_of_ble_eq_true rfl, Nat.le_of_ble_eq_true rfl⟩) hK hN (hZ.kept hS) hP hD hS hA [2, 3, 7] [0, 1, 4, 5, 6] rfl rfl (by decide) (by decide) (by decide) (va_recv hK hP (ci := 0) (q0 := 2) rfl rfl) rfl hl.1 rfl (Nat.le_of_ble_eq_true rfl) dX3_tellItem_169 ⟨Nat.le_of_ble_eq_true rfl, Nat.le_of_ble_eq_true rfl⟩ (fun u_47 H locs hr_46 hP hD hS => ?_)
    obtain ⟨q_48, q_49, q_50, q_51, q_52, q_53⟩ := u_47
    try dsimp only at hr_46
    obtain ⟨hbq_48, hbq_50, hbq_51, hbq_52, hpq_53, hr_46⟩ := hr_46
    replace hP : va_P D vwCl [(rd, .inr (3, [.ref ri, .ref rl, .int rz, .int rc, .int rp, .int rf, .int rt, .int ru])), (ri, .inl (cI, 132, .inl fi)), (zl, .inl (cZ, 40, .inl fl)), (zs, .inl (cI, 40, .inl fs)), (jp, .inl (cP, 8, .inr (.inr (.inr (.inr fp))))), (j0, .inr (0, [.ref z0, .ref jp, .ref jc, .int cn, .int q_48, .int tr, .int q_49, .int q_50, .int sd])), (z0, .inr (6, [.ref zl, .ref zs, .int sz, .int q_51, .int q_52])), (jc, .inl (cI, 3, .inl q_53))] H := hP
    replace hD : va_D _ [(rd, .inr (3, [.ref ri, .ref rl, .int rz, .int rc, .int rp, .int rf, .int rt, .int ru])), (ri, .inl (cI, 132, .inl fi)), (zl, .inl (cZ, 40, .inl fl)), (zs, .inl (cI, 40, .inl fs)), (jp, .inl (cP, 8, .inr (.inr (.inr (.inr fp))))), (j0, .inr (0, [.ref z0, .ref jp, .ref jc, .int cn, .int q_48, .int tr, .int q_49, .int q_50, .int sd])), (z0, .inr (6, [.ref zl, .ref zs, .int sz, .int q_51, .int q_52])), (jc, .inl (cI, 3, .inl q_53))] := hD
    refine W.widen (k := 1) (n := 3) (Nat.le_of_ble_eq_true rfl) (Nat.le_of_ble_eq_true rfl) ?_
    exact W.vret hx hb hr (fun t ht hW => ⟨⟨(q_48, q_49, q_50, sz, q_51, q_52, fl, fs, q_53, cn, fp, kf, af, tf, []), rfl, ⟨(show 0 ≤ q_48.toInt ∧ q_48.toInt ≤ 24 from hbq_48), (show 0 ≤ q_50.toInt ∧ q_50.toInt ≤ 9 from hbq_50), (show 4 ≤ sz.toInt ∧ sz.toInt ≤ 40 from ⟨hy19, hy20⟩), (show 0 ≤ q_51.toInt ∧ q_51.toInt ≤ 40 from hbq_51), (show 1 ≤ q_52.toInt ∧ q_52.toInt ≤ 9 from hbq_52), hp_fl, hp_fs, hpq_53, (show 0 ≤ cn.toInt ∧ cn.toInt ≤ 8 from ⟨hy13, hy14⟩), (by intro z hz; simp at hz), (show zExt [] fp cn kf af tf fp cn kf af tf from by first | exact zExt.refl | assumption), trivial⟩, by rw [ht]; exact hP.sub (ws' := [(rd, .inr (3, [.ref ri, .ref rl, .int rz, .int rc, .int rp, .int rf, .int rt, .int ru])), (ri, .inl (cI, 132, .inl fi)), (j0, .inr (0, [.ref z0, .ref jp, .ref jc, .int cn, .int q_48, .int tr, .int q_49, .int q_50, .int sd])), (z0, .inr (6, [.ref zl, .ref zs, .int sz, .int q_51, .int q_52])), (zl, .inl (cZ, 40, .inl fl)), (zs, .inl (cI, 40, .inl fs)), (jp, .inl (cP, 8, .inr (.inr (.inr (.inr fp))))), (jc, .inl (cI, 3, .inl q_53))]) [0, 1, 5, 6, 2, 3, 4, 7] rfl, hD.sub (ws' := [(rd, .inr (3, [.ref ri, .ref rl, .int rz, .int rc, .int rp, .int rf, .int rt, .int ru])), (ri, .inl (cI, 132, .inl fi)), (j0, .inr (0, [.ref z0, .ref jp, .ref jc, .int cn, .int q_48, .int tr, .int q_49, .int q_50, .int sd])), (z0, .inr (6, [.ref zl, .ref zs, .int sz, .int q_51, .int q_52])), (zl, .inl (cZ, 40, .inl fl)), (zs, .inl (cI, 40, .inl fs)), (jp, .inl (cP, 8, .inr (.inr (.inr (.inr fp))))), (jc, .inl (cI, 3, .inl q_53))]) [0, 1, 5, 6, 2, 3, 4, 7] (by decide) rfl⟩, hS.F ht⟩) hS.2.2 dX3_tellItem_172
  · have kc7 : (7 : Int32).toInt = 7 := by decide
    refine lv_tableIn (tgt := 159) hx hb dX3_tellItem_25 (by decide) (by decide) rfl (by decide) ?_
    refine lv_aload_n hx hb dX3_tellItem_159 rfl (lv_at hl 3 rfl) ?_
    refine lv_aload_n hx hb dX3_tellItem_160 rfl (lv_at hl 2 rfl) ?_
    refine va_get (D := D) (ci := 3) (v := .ref ri) (C := RX3) (T := TX3) (N := 8) hx hb hts hi_X3_tellItem_3 hown hK hP 0 rfl rfl 0 (by decide) (hts (.fieldLink RX3 11 "TheLiningsInIt$Reader" "items" "[I") (List.mem_of_getElem? (i := 1) rfl)) (fun _ h9 => h9) rfl dX3_tellItem_161 ?_
    refine lv_iload_n hx hb dX3_tellItem_164 rfl (lv_at hl 4 rfl) ?_
    refine va_iald hx hb hK hP 1 0 rfl rfl (zf_in (by omega) (by omega)) dX3_tellItem_165 ?_
    refine lv_topi (fun y_54 ey_54 => ?_)
    obtain rfl : y_54 = 7 := ey_54.trans ex_5.symm
    refine lv_iconst (v := 4) hx hb dX3_tellItem_166 (by decide) ?_
    refine lv_isub hx hb dX3_tellItem_167 ?_
    refine lv_topi (fun y_55 ey_55 => ?_)
    obtain rfl : y_55 = 3 := ey_55.trans (by decide)
    refine lv_iload_n hx hb dX3_tellItem_168 rfl (lv_at hl 1 rfl) ?_
    have kc3 : (3 : Int32).toInt = 3 := by decide
    skip
    refine zw_Vv (As := [.int 3, .int x_2]) (rest := []) (wr := [(rd, .inr (3, [.ref ri, .ref rl, .int rz, .int rc, .int rp, .int rf, .int rt, .int ru])), (ri, .inl (cI, 132, .inl fi)), (zl, .inl (cZ, 40, .inl fl)), (zs, .inl (cI, 40, .inl fs)), (jp, .inl (cP, 8, .inr (.inr (.inr (.inr fp)))))]) ⟨hx, hb, hml, hown, hts⟩ (c_J_setNumber l D cI cJ cZ cP cS po j0 jp jc z0 zl zs (cn) (de) (tr) (se) (hu) (sd) (sz) (at_) (gp) fc (3) (x_2) hy13 hy14 hy15 hy16 hy17 hy18 hy19 hy20 hy21 hy22 hy23 hy24 (by omega) (by omega) (by omega) hp_fc H.size) (cwV 2 hts gX3_tellItem_X0_setNumber rfl rfl rfl (by decide +kernel) ⟨Nat.le_of_ble_eq_true rfl, Nat.le_of_ble_eq_true rfl⟩) hK hN (hZ.kept hS) hP hD hS hA [2, 3, 7] [0, 1, 4, 5, 6] rfl rfl (by decide) (by decide) (by decide) (va_recv hK hP (ci := 0) (q0 := 2) rfl rfl) rfl hl.1 rfl (Nat.le_of_ble_eq_true rfl) dX3_tellItem_169 ⟨Nat.le_of_ble_eq_true rfl, Nat.le_of_ble_eq_true rfl⟩ (fun u_57 H locs hr_56 hP hD hS => ?_)
    obtain ⟨q_58, q_59, q_60, q_61, q_62, q_63⟩ := u_57
    try dsimp only at hr_56
    obtain ⟨hbq_58, hbq_60, hbq_61, hbq_62, hpq_63, hr_56⟩ := hr_56
    replace hP : va_P D vwCl [(rd, .inr (3, [.ref ri, .ref rl, .int rz, .int rc, .int rp, .int rf, .int rt, .int ru])), (ri, .inl (cI, 132, .inl fi)), (zl, .inl (cZ, 40, .inl fl)), (zs, .inl (cI, 40, .inl fs)), (jp, .inl (cP, 8, .inr (.inr (.inr (.inr fp))))), (j0, .inr (0, [.ref z0, .ref jp, .ref jc, .int cn, .int q_58, .int tr, .int q_59, .int q_60, .int sd])), (z0, .inr (6, [.ref zl, .ref zs, .int sz, .int q_61, .int q_62])), (jc, .inl (cI, 3, .inl q_63))] H := hP
    replace hD : va_D _ [(rd, .inr (3, [.ref ri, .ref rl, .int rz, .int rc, .int rp, .int rf, .int rt, .int ru])), (ri, .inl (cI, 132, .inl fi)), (zl, .inl (cZ, 40, .inl fl)), (zs, .inl (cI, 40, .inl fs)), (jp, .inl (cP, 8, .inr (.inr (.inr (.inr fp))))), (j0, .inr (0, [.ref z0, .ref jp, .ref jc, .int cn, .int q_58, .int tr, .int q_59, .int q_60, .int sd])), (z0, .inr (6, [.ref zl, .ref zs, .int sz, .int q_61, .int q_62])), (jc, .inl (cI, 3, .inl q_63))] := hD
    refine W.widen (k := 1) (n := 3) (Nat.le_of_ble_eq_true rfl) (Nat.le_of_ble_eq_true rfl) ?_
    exact W.vret hx hb hr (fun t ht hW => ⟨⟨(q_58, q_59, q_60, sz, q_61, q_62, fl, fs, q_63, cn, fp, kf, af, tf, []), rfl, ⟨(show 0 ≤ q_58.toInt ∧ q_58.toInt ≤ 24 from hbq_58), (show 0 ≤ q_60.toInt ∧ q_60.toInt ≤ 9 from hbq_60), (show 4 ≤ sz.toInt ∧ sz.toInt ≤ 40 from ⟨hy19, hy20⟩), (show 0 ≤ q_61.toInt ∧ q_61.toInt ≤ 40 from hbq_61), (show 1 ≤ q_62.toInt ∧ q_62.toInt ≤ 9 from hbq_62), hp_fl, hp_fs, hpq_63, (show 0 ≤ cn.toInt ∧ cn.toInt ≤ 8 from ⟨hy13, hy14⟩), (by intro z hz; simp at hz), (show zExt [] fp cn kf af tf fp cn kf af tf from by first | exact zExt.refl | assumption), trivial⟩, by rw [ht]; exact hP.sub (ws' := [(rd, .inr (3, [.ref ri, .ref rl, .int rz, .int rc, .int rp, .int rf, .int rt, .int ru])), (ri, .inl (cI, 132, .inl fi)), (j0, .inr (0, [.ref z0, .ref jp, .ref jc, .int cn, .int q_58, .int tr, .int q_59, .int q_60, .int sd])), (z0, .inr (6, [.ref zl, .ref zs, .int sz, .int q_61, .int q_62])), (zl, .inl (cZ, 40, .inl fl)), (zs, .inl (cI, 40, .inl fs)), (jp, .inl (cP, 8, .inr (.inr (.inr (.inr fp))))), (jc, .inl (cI, 3, .inl q_63))]) [0, 1, 5, 6, 2, 3, 4, 7] rfl, hD.sub (ws' := [(rd, .inr (3, [.ref ri, .ref rl, .int rz, .int rc, .int rp, .int rf, .int rt, .int ru])), (ri, .inl (cI, 132, .inl fi)), (j0, .inr (0, [.ref z0, .ref jp, .ref jc, .int cn, .int q_58, .int tr, .int q_59, .int q_60, .int sd])), (z0, .inr (6, [.ref zl, .ref zs, .int sz, .int q_61, .int q_62])), (zl, .inl (cZ, 40, .inl fl)), (zs, .inl (cI, 40, .inl fs)), (jp, .inl (cP, 8, .inr (.inr (.inr (.inr fp))))), (jc, .inl (cI, 3, .inl q_63))]) [0, 1, 5, 6, 2, 3, 4, 7] (by decide) rfl⟩, hS.F ht⟩) hS.2.2 dX3_tellItem_172
  · have kc8 : (8 : Int32).toInt = 8 := by decide
    refine lv_tableIn (tgt := 137) hx hb dX3_tellItem_25 (by decide) (by decide) rfl (by decide) ?_
    refine lv_aload_n hx hb dX3_tellItem_137 rfl (lv_at hl 3 rfl) ?_
    refine va_get (D := D) (ci := 0) (v := .ref jc) (C := RX0) (T := TX0) (N := 9) hx hb hts hi_X3_tellItem_0 hown hK hP 2 rfl rfl 2 (by decide) (hts (.fieldLink RX3 158 "TheLiningsInIt$Jacket" "costs" "[I") (List.mem_of_getElem? (i := 5) rfl)) (fun _ h9 => h9) rfl dX3_tellItem_138 ?_
    refine lv_iload_n hx hb dX3_tellItem_141 rfl (lv_at hl 1 rfl) ?_
    refine lv_iload hx hb dX3_tellItem_142 (lv_at hl 0 rfl) ?_
    refine va_iast hx hb hK hP hD hS 7 0 rfl rfl (zf_in (by omega) (by omega)) dX3_tellItem_144 (fun H locs hP hD hS => ?_)
    have hpg_64 : zRg (upd fc x_2.toNatClampNeg x_4) (0) 99 := zRg_upd hp_fc (by omega) (by omega)
    obtain ⟨g_64, hg_64⟩ : ∃ g : Nat → Int32, g = upd fc x_2.toNatClampNeg x_4 := ⟨_, rfl⟩
    rw [← hg_64] at hP hD hpg_64
    clear hg_64
    replace hP : va_P D vwCl [(rd, .inr (3, [.ref ri, .ref rl, .int rz, .int rc, .int rp, .int rf, .int rt, .int ru])), (ri, .inl (cI, 132, .inl fi)), (j0, .inr (0, [.ref z0, .ref jp, .ref jc, .int cn, .int de, .int tr, .int se, .int hu, .int sd])), (z0, .inr (6, [.ref zl, .ref zs, .int sz, .int at_, .int gp])), (zl, .inl (cZ, 40, .inl fl)), (zs, .inl (cI, 40, .inl fs)), (jp, .inl (cP, 8, .inr (.inr (.inr (.inr fp))))), (jc, .inl (cI, 3, .inl g_64))] H := hP
    replace hD : va_D _ [(rd, .inr (3, [.ref ri, .ref rl, .int rz, .int rc, .int rp, .int rf, .int rt, .int ru])), (ri, .inl (cI, 132, .inl fi)), (j0, .inr (0, [.ref z0, .ref jp, .ref jc, .int cn, .int de, .int tr, .int se, .int hu, .int sd])), (z0, .inr (6, [.ref zl, .ref zs, .int sz, .int at_, .int gp])), (zl, .inl (cZ, 40, .inl fl)), (zs, .inl (cI, 40, .inl fs)), (jp, .inl (cP, 8, .inr (.inr (.inr (.inr fp))))), (jc, .inl (cI, 3, .inl g_64))] := hD
    refine lv_goto (tgt := 172) hx hb dX3_tellItem_145 (by decide) ?_
    refine W.widen (k := 1) (n := 3) (Nat.le_of_ble_eq_true rfl) (Nat.le_of_ble_eq_true rfl) ?_
    exact W.vret hx hb hr (fun t ht hW => ⟨⟨(de, se, hu, sz, at_, gp, fl, fs, g_64, cn, fp, kf, af, tf, []), rfl, ⟨(show 0 ≤ de.toInt ∧ de.toInt ≤ 24 from ⟨hy15, hy16⟩), (show 0 ≤ hu.toInt ∧ hu.toInt ≤ 9 from ⟨hy17, hy18⟩), (show 4 ≤ sz.toInt ∧ sz.toInt ≤ 40 from ⟨hy19, hy20⟩), (show 0 ≤ at_.toInt ∧ at_.toInt ≤ 40 from ⟨hy21, hy22⟩), (show 1 ≤ gp.toInt ∧ gp.toInt ≤ 9 from ⟨hy23, hy24⟩), hp_fl, hp_fs, hpg_64, (show 0 ≤ cn.toInt ∧ cn.toInt ≤ 8 from ⟨hy13, hy14⟩), (by intro z hz; simp at hz), (show zExt [] fp cn kf af tf fp cn kf af tf from by first | exact zExt.refl | assumption), trivial⟩, by rw [ht]; exact hP.sub (ws' := [(rd, .inr (3, [.ref ri, .ref rl, .int rz, .int rc, .int rp, .int rf, .int rt, .int ru])), (ri, .inl (cI, 132, .inl fi)), (j0, .inr (0, [.ref z0, .ref jp, .ref jc, .int cn, .int de, .int tr, .int se, .int hu, .int sd])), (z0, .inr (6, [.ref zl, .ref zs, .int sz, .int at_, .int gp])), (zl, .inl (cZ, 40, .inl fl)), (zs, .inl (cI, 40, .inl fs)), (jp, .inl (cP, 8, .inr (.inr (.inr (.inr fp))))), (jc, .inl (cI, 3, .inl g_64))]) [0, 1, 2, 3, 4, 5, 6, 7] rfl, hD.sub (ws' := [(rd, .inr (3, [.ref ri, .ref rl, .int rz, .int rc, .int rp, .int rf, .int rt, .int ru])), (ri, .inl (cI, 132, .inl fi)), (j0, .inr (0, [.ref z0, .ref jp, .ref jc, .int cn, .int de, .int tr, .int se, .int hu, .int sd])), (z0, .inr (6, [.ref zl, .ref zs, .int sz, .int at_, .int gp])), (zl, .inl (cZ, 40, .inl fl)), (zs, .inl (cI, 40, .inl fs)), (jp, .inl (cP, 8, .inr (.inr (.inr (.inr fp))))), (jc, .inl (cI, 3, .inl g_64))]) [0, 1, 2, 3, 4, 5, 6, 7] (by decide) rfl⟩, hS.F ht⟩) hS.2.2 dX3_tellItem_172
  · have kc9 : (9 : Int32).toInt = 9 := by decide
    refine lv_tableIn (tgt := 148) hx hb dX3_tellItem_25 (by decide) (by decide) rfl (by decide) ?_
    refine lv_aload_n hx hb dX3_tellItem_148 rfl (lv_at hl 3 rfl) ?_
    refine va_get (D := D) (ci := 0) (v := .ref z0) (C := RX0) (T := TX0) (N := 9) hx hb hts hi_X3_tellItem_0 hown hK hP 2 rfl rfl 0 (by decide) (hts (.fieldLink RX3 136 "TheLiningsInIt$Jacket" "zip" "LTheLiningsInIt$Zip;") (List.mem_of_getElem? (i := 2) rfl)) (fun _ h9 => h9) rfl dX3_tellItem_149 ?_
    refine lv_iload_n hx hb dX3_tellItem_152 rfl (lv_at hl 1 rfl) ?_
    refine va_put (D := D) (ci := 6) (v := .int x_2) (ty := .int) (C := RX6) (T := TX6) (N := 5) hx hb hts hi_X3_tellItem_6 tyX6 tyX6_ok nmX6 hown hK hP hD hS 3 rfl rfl 3 (by decide) (hts (.fieldLink RX3 161 "TheLiningsInIt$Zip" "at" "I") (List.mem_of_getElem? (i := 6) rfl)) (fun _ h9 => h9) rfl (by decide +kernel) rfl rfl (Nat.le_of_ble_eq_true rfl) dX3_tellItem_153 (fun H locs hP hD hS => ?_)
    replace hP : va_P D vwCl [(rd, .inr (3, [.ref ri, .ref rl, .int rz, .int rc, .int rp, .int rf, .int rt, .int ru])), (ri, .inl (cI, 132, .inl fi)), (j0, .inr (0, [.ref z0, .ref jp, .ref jc, .int cn, .int de, .int tr, .int se, .int hu, .int sd])), (z0, .inr (6, [.ref zl, .ref zs, .int sz, .int x_2, .int gp])), (zl, .inl (cZ, 40, .inl fl)), (zs, .inl (cI, 40, .inl fs)), (jp, .inl (cP, 8, .inr (.inr (.inr (.inr fp))))), (jc, .inl (cI, 3, .inl fc))] H := hP
    replace hD : va_D _ [(rd, .inr (3, [.ref ri, .ref rl, .int rz, .int rc, .int rp, .int rf, .int rt, .int ru])), (ri, .inl (cI, 132, .inl fi)), (j0, .inr (0, [.ref z0, .ref jp, .ref jc, .int cn, .int de, .int tr, .int se, .int hu, .int sd])), (z0, .inr (6, [.ref zl, .ref zs, .int sz, .int x_2, .int gp])), (zl, .inl (cZ, 40, .inl fl)), (zs, .inl (cI, 40, .inl fs)), (jp, .inl (cP, 8, .inr (.inr (.inr (.inr fp))))), (jc, .inl (cI, 3, .inl fc))] := hD
    refine lv_goto (tgt := 172) hx hb dX3_tellItem_156 (by decide) ?_
    refine W.widen (k := 1) (n := 3) (Nat.le_of_ble_eq_true rfl) (Nat.le_of_ble_eq_true rfl) ?_
    exact W.vret hx hb hr (fun t ht hW => ⟨⟨(de, se, hu, sz, x_2, gp, fl, fs, fc, cn, fp, kf, af, tf, []), rfl, ⟨(show 0 ≤ de.toInt ∧ de.toInt ≤ 24 from ⟨hy15, hy16⟩), (show 0 ≤ hu.toInt ∧ hu.toInt ≤ 9 from ⟨hy17, hy18⟩), (show 4 ≤ sz.toInt ∧ sz.toInt ≤ 40 from ⟨hy19, hy20⟩), (show 0 ≤ x_2.toInt ∧ x_2.toInt ≤ 40 from ⟨by omega, by omega⟩), (show 1 ≤ gp.toInt ∧ gp.toInt ≤ 9 from ⟨hy23, hy24⟩), hp_fl, hp_fs, hp_fc, (show 0 ≤ cn.toInt ∧ cn.toInt ≤ 8 from ⟨hy13, hy14⟩), (by intro z hz; simp at hz), (show zExt [] fp cn kf af tf fp cn kf af tf from by first | exact zExt.refl | assumption), trivial⟩, by rw [ht]; exact hP.sub (ws' := [(rd, .inr (3, [.ref ri, .ref rl, .int rz, .int rc, .int rp, .int rf, .int rt, .int ru])), (ri, .inl (cI, 132, .inl fi)), (j0, .inr (0, [.ref z0, .ref jp, .ref jc, .int cn, .int de, .int tr, .int se, .int hu, .int sd])), (z0, .inr (6, [.ref zl, .ref zs, .int sz, .int x_2, .int gp])), (zl, .inl (cZ, 40, .inl fl)), (zs, .inl (cI, 40, .inl fs)), (jp, .inl (cP, 8, .inr (.inr (.inr (.inr fp))))), (jc, .inl (cI, 3, .inl fc))]) [0, 1, 2, 3, 4, 5, 6, 7] rfl, hD.sub (ws' := [(rd, .inr (3, [.ref ri, .ref rl, .int rz, .int rc, .int rp, .int rf, .int rt, .int ru])), (ri, .inl (cI, 132, .inl fi)), (j0, .inr (0, [.ref z0, .ref jp, .ref jc, .int cn, .int de, .int tr, .int se, .int hu, .int sd])), (z0, .inr (6, [.ref zl, .ref zs, .int sz, .int x_2, .int gp])), (zl, .inl (cZ, 40, .inl fl)), (zs, .inl (cI, 40, .inl fs)), (jp, .inl (cP, 8, .inr (.inr (.inr (.inr fp))))), (jc, .inl (cI, 3, .inl fc))]) [0, 1, 2, 3, 4, 5, 6, 7] (by decide) rfl⟩, hS.F ht⟩) hS.2.2 dX3_tellItem_172
