/-! numbers of 32 bits as whole numbers; calls of contracts over worlds, each as one row -/
theorem zf_lt {a b : Int32} {x y : Int} (h : a < b) (ha : a.toInt = x) (hb : b.toInt = y) : x < y := by
  rw [← ha, ← hb]; exact Int32.lt_iff_toInt_lt.mp h
theorem zf_nlt {a b : Int32} {x y : Int} (h : ¬ a < b) (ha : a.toInt = x) (hb : b.toInt = y) : y ≤ x := by
  rw [← ha, ← hb]; exact Int.not_lt.mp (fun q => h (Int32.lt_iff_toInt_lt.mpr q))
theorem zf_le {a b : Int32} {x y : Int} (h : a ≤ b) (ha : a.toInt = x) (hb : b.toInt = y) : x ≤ y := by
  rw [← ha, ← hb]; exact Int32.le_iff_toInt_le.mp h
theorem zf_nle {a b : Int32} {x y : Int} (h : ¬ a ≤ b) (ha : a.toInt = x) (hb : b.toInt = y) : y < x := by
  rw [← ha, ← hb]; exact Int.not_le.mp (fun q => h (Int32.le_iff_toInt_le.mpr q))
theorem zf_eq {a b : Int32} {x y : Int} (h : a = b) (ha : a.toInt = x) (hb : b.toInt = y) : x = y := by
  rw [← ha, ← hb, h]
theorem zf_ne {a b : Int32} {x y : Int} (h : ¬ a = b) (ha : a.toInt = x) (hb : b.toInt = y) : x ≠ y := by
  rw [← ha, ← hb]; exact fun q => h (Int32.toInt_inj.mp q)
theorem zf_in {i : Int32} {n : Nat} (h1 : 0 ≤ i.toInt) (h2 : i.toInt < (n : Int)) : vp_in i n := vp_in_iff.mpr ⟨h1, h2⟩
theorem zf_add {a b : Int32} {x y : Int} (ha : a.toInt = x) (hb : b.toInt = y) (h1 : -2147483648 ≤ x + y) (h2 : x + y ≤ 2147483647) : (a + b).toInt = x + y := by
  rw [Int32.toInt_add, ha, hb]; exact Int.bmod_eq_of_le (by omega) (by omega)
theorem zf_sub {a b : Int32} {x y : Int} (ha : a.toInt = x) (hb : b.toInt = y) (h1 : -2147483648 ≤ x - y) (h2 : x - y ≤ 2147483647) : (a - b).toInt = x - y := by
  rw [Int32.toInt_sub, ha, hb]; exact Int.bmod_eq_of_le (by omega) (by omega)
theorem zf_neg {a : Int32} {x : Int} (ha : a.toInt = x) (h1 : -2147483648 ≤ -x) (h2 : -x ≤ 2147483647) : (-a).toInt = -x := by
  rw [Int32.toInt_neg, ha]; exact Int.bmod_eq_of_le (by omega) (by omega)
theorem zf_rng (x : Int32) : -2147483648 ≤ x.toInt ∧ x.toInt ≤ 2147483647 := ⟨Int32.le_toInt x, by have := Int32.toInt_lt x; omega⟩
theorem zf_val {a b : Int32} {x : Int} (ha : a.toInt = x) (hb : b.toInt = x) : a = b := Int32.toInt_inj.mp (ha.trans hb.symm)
abbrev zKT (cI cJ cZ cP cS : ClassId) : List (ClassId × FieldType) := [(cI, .int), (cJ, .long), (cZ, .boolean), (cP, .object RX2), (cS, .object RX4)]
/-- what the nest's private members and the reference arrays need of the machine: nothing of the heap -/
def zNm : List (String × Nat × MethodName) := [(RX7, 17, yX0_init), (RX0, 11, yX6_init), (RX7, 27, yX5_init), (RX7, 34, yX3_init), (RX7, 41, yX1_init), (RX7, 58, yX4_init), (RX0, 66, yX7_within), (RX2, 21, yX7_within), (RX3, 109, yX7_within), (RX5, 71, yX7_within), (RX7, 208, yX5_most), (RX7, 214, yX5_least), (RX4, 44, yX7_within), (RX1, 44, yX7_within)]
def zNf : List (String × Nat) := [(RX2, 25), (RX1, 58)]
def zN (U : State) : Prop := (∀ q ∈ zNm, va_Nw (.methodLinkNest q.1 q.2.1 q.2.2 RX7) U) ∧ (∀ q ∈ zNf, va_Nw (.fieldLinkNest q.1 q.2 RX7 "ABOVE" "[I" RX7) U) ∧ va_AO RX2 U ∧ va_AO RX4 U
theorem zN.warm {s U : State} (hW : s.WarmedH U.vm) (h : zN s) : zN U := ⟨fun q hq => va_Nw.warmM hW (h.1 q hq), fun q hq => va_Nw.warmF hW (h.2.1 q hq), va_AO.moved hW.alike h.2.2.1, va_AO.moved hW.alike h.2.2.2⟩
theorem zN.same {u U : State} (e : u.vm = U.vm) (h : zN u) : zN U := ⟨fun q hq => va_Nw.same rfl e (h.1 q hq), fun q hq => va_Nw.same rfl e (h.2.1 q hq), va_AO.moved (by rw [← e]; exact Vm.Alike.refl _) h.2.2.1, va_AO.moved (by rw [← e]; exact Vm.Alike.refl _) h.2.2.2⟩
/-- the two static arrays that nobody writes -/
def zPOW : Nat → Int32 := fun j => if j = 0 then 1 else if j = 1 then 12 else if j = 2 then 144 else if j = 3 then 1728 else 20736
def zABV : Nat → Int32 := fun j => if j = 0 then -1 else if j = 1 then 0 else if j = 2 then 0 else if j = 3 then 1 else if j = 4 then 0 else if j = 5 then 2 else 4
def zSt (A : Nat → Prop) (s : State) (H : Heap) : Prop := (∃ t : Nat, va_Z RX5 "POWERS" "[I" (.ref t) A s H ∧ va_T .int t 5 (fun j => .int (zPOW j)) A s H) ∧ ∃ t : Nat, va_Z RX7 "ABOVE" "[I" (.ref t) A s H ∧ va_T .int t 7 (fun j => .int (zABV j)) A s H
theorem zSt.moved {A : Nat → Prop} {u U : State} {H : Heap} (hvm : u.vm.Alike U.vm) (h : zSt A u H) : zSt A U H := by
  obtain ⟨⟨t, a, b⟩, t', a', b'⟩ := h
  exact ⟨⟨t, a.moved hvm, b.moved hvm⟩, t', a'.moved hvm, b'.moved hvm⟩
theorem zSt.narrow {A B : Nat → Prop} {s : State} {H : Heap} (h : zSt A s H) (hAB : ∀ q, B q → A q) : zSt B s H := by
  obtain ⟨⟨t, a, b⟩, t', a', b'⟩ := h
  exact ⟨⟨t, a.narrow hAB, b.narrow hAB⟩, t', a'.narrow hAB, b'.narrow hAB⟩
theorem zSt.kept {A : Nat → Prop} {s : State} {H0 H : Heap} {locs : List Loc} (h : zSt A s H0) (hS : va_S A H0 H locs) : zSt A s H := by
  obtain ⟨⟨t, a, b⟩, t', a', b'⟩ := h
  exact ⟨⟨t, a.kept hS.2.1, b.kept hS.2.1⟩, t', a'.kept hS.2.1, b'.kept hS.2.1⟩
/-- the pulls that were ever made (address, kind, a, seconds; they never change), and where the ten words lie -/
abbrev zPool : Type := List (Nat × Int32 × Int32 × Int32) × (Nat → Nat) × (Nat → Nat)
/-- the ten words of a told jacket, constants of the class's texts: where they lie, and what they are -/
def zEnt : List Nat := [113, 114, 116, 118, 120, 122, 124, 126, 128, 130]
def zTxt : List String := ["teeth", "lack", "slack", "pull", "depth", "seconds", "hurry", "gap", "cost", "at"]
def zLen : List Nat := [5, 4, 5, 4, 5, 7, 5, 3, 4, 2]
def zByt : List (List Int32) := [[116, 101, 101, 116, 104], [108, 97, 99, 107], [115, 108, 97, 99, 107], [112, 117, 108, 108], [100, 101, 112, 116, 104], [115, 101, 99, 111, 110, 100, 115], [104, 117, 114, 114, 121], [103, 97, 112], [99, 111, 115, 116], [97, 116]]
def zStr (po : zPool) (A : Nat → Prop) (s : State) (H : Heap) : Prop := vk_S 10 zLen zByt po.2.1 po.2.2 A s H ∧ (∀ i : Nat, i < 10 → vk_R RX3 (zEnt.getD i 0) (zTxt.getD i "") (po.2.1 i) s) ∧ va_Z "java/lang/String" "COMPACT_STRINGS" "Z" (.int 1) A s H ∧ va_Zq "jdk/internal/util/Preconditions" "SIOOBE_FORMATTER" "Ljava/util/function/BiFunction;" A s H
theorem zStr.warm {po : zPool} {A : Nat → Prop} {u U : State} {H : Heap} (hW : u.WarmedH U.vm) (h : zStr po A u H) : zStr po A U H := ⟨h.1.moved hW.alike, fun i hi => (h.2.1 i hi).warm hW, h.2.2.1.moved hW.alike, h.2.2.2.moved hW.alike⟩
theorem zStr.same {po : zPool} {A : Nat → Prop} {u U : State} {H : Heap} (e : u.vm = U.vm) (h : zStr po A u H) : zStr po A U H := ⟨h.1.moved (by rw [← e]; exact Vm.Alike.refl _), fun i hi => (h.2.1 i hi).same e.symm, h.2.2.1.moved (by rw [← e]; exact Vm.Alike.refl _), h.2.2.2.moved (by rw [← e]; exact Vm.Alike.refl _)⟩
theorem zStr.narrow {po : zPool} {A B : Nat → Prop} {s : State} {H : Heap} (h : zStr po A s H) (hAB : ∀ q, B q → A q) : zStr po B s H := ⟨h.1.narrow hAB, h.2.1, h.2.2.1.narrow hAB, h.2.2.2.narrow hAB⟩
theorem zStr.kept {po : zPool} {A : Nat → Prop} {s : State} {H0 H : Heap} (h : zStr po A s H0) (hq : ∀ a : Nat, a < H0.size → ¬ A a → H[a]? = H0[a]?) : zStr po A s H := ⟨h.1.kept hq, h.2.1, h.2.2.1.kept hq, h.2.2.2.kept hq⟩
def zPo (z : Nat × Int32 × Int32 × Int32) : Nat × va_E := (z.1, .inr (2, [.int z.2.1, .int z.2.2.1, .int z.2.2.2]))
def zPr (ki a_ ta : Int32) : Prop := (0 ≤ ki.toInt ∧ ki.toInt ≤ 6) ∧ (0 ≤ a_.toInt ∧ a_.toInt ≤ 9) ∧ 1 ≤ ta.toInt ∧ ta.toInt ≤ 60
def zE (D : va_G) (po : zPool) (A : Nat → Prop) (s : State) (H : Heap) : Prop := zSt A s H ∧ (∀ z ∈ po.1, va_P D vwCl [zPo z] H ∧ ¬ A z.1 ∧ zPr z.2.1 z.2.2.1 z.2.2.2) ∧ zStr po A s H
theorem zE.warm {D : va_G} {po : zPool} {A : Nat → Prop} {u U : State} {H : Heap} (hW : u.WarmedH U.vm) (h : zE D po A u H) : zE D po A U H := ⟨h.1.moved hW.alike, h.2.1, h.2.2.warm hW⟩
theorem zE.same {D : va_G} {po : zPool} {A : Nat → Prop} {u U : State} {H : Heap} (e : u.vm = U.vm) (h : zE D po A u H) : zE D po A U H := ⟨h.1.moved (by rw [← e]; exact Vm.Alike.refl _), h.2.1, h.2.2.same e⟩
theorem zE.narrow {D : va_G} {po : zPool} {A B : Nat → Prop} {s : State} {H : Heap} (h : zE D po A s H) (hAB : ∀ q, B q → A q) : zE D po B s H := ⟨h.1.narrow hAB, fun a ha => ⟨(h.2.1 a ha).1, fun hb => (h.2.1 a ha).2.1 (hAB a.1 hb), (h.2.1 a ha).2.2⟩, h.2.2.narrow hAB⟩
theorem zSt.keptQ {A : Nat → Prop} {s : State} {H0 H : Heap} (h : zSt A s H0) (hq : ∀ a : Nat, a < H0.size → ¬ A a → H[a]? = H0[a]?) : zSt A s H := by
  obtain ⟨⟨t, a, b⟩, t', a', b'⟩ := h
  exact ⟨⟨t, a.kept hq, b.kept hq⟩, t', a'.kept hq, b'.kept hq⟩
theorem zE.keptQ {D : va_G} {po : zPool} {A : Nat → Prop} {s : State} {H0 H : Heap} (h : zE D po A s H0) (hq : ∀ a : Nat, a < H0.size → ¬ A a → H[a]? = H0[a]?) : zE D po A s H := ⟨h.1.keptQ hq, fun a ha => by
  obtain ⟨h1, h2, h3⟩ := h.2.1 a ha
  refine ⟨h1.kept (fun k q hk => ?_), h2, h3⟩
  have e : q = zPo a := by
    match k, hk with
    | 0, hk => simp at hk; exact hk.symm
    | k + 1, hk => simp at hk
  rw [e]
  exact hq a.1 ((h1 0 (zPo a) rfl).lt) h2, h.2.2.kept hq⟩
theorem zE.kept {D : va_G} {po : zPool} {A : Nat → Prop} {s : State} {H0 H : Heap} {locs : List Loc} (h : zE D po A s H0) (hS : va_S A H0 H locs) : zE D po A s H := h.keptQ hS.2.1
/-- a pull of the pool, by its three numbers -/
def zPu (po : zPool) (u : Nat) (ki a_ ta : Int32) : Prop := (u, ki, a_, ta) ∈ po.1
theorem zPu_P {D : va_G} {po : zPool} {A : Nat → Prop} {s : State} {H : Heap} {u : Nat} {ki a_ ta : Int32} (h : zE D po A s H) (hu : zPu po u ki a_ ta) : va_P D vwCl [(u, .inr (2, [.int ki, .int a_, .int ta]))] H := (h.2.1 _ hu).1
theorem zPu_pr {D : va_G} {po : zPool} {A : Nat → Prop} {s : State} {H : Heap} {u : Nat} {ki a_ ta : Int32} (h : zE D po A s H) (hu : zPu po u ki a_ ta) : (0 ≤ ki.toInt ∧ ki.toInt ≤ 6) ∧ (0 ≤ a_.toInt ∧ a_.toInt ≤ 9) ∧ 1 ≤ ta.toInt ∧ ta.toInt ≤ 60 := (h.2.1 _ hu).2.2
/-- the first pulls of a row of them are there, with these kinds, numbers A and seconds -/
def zJP (po : zPool) (f : Nat → Option Nat) (n : Int32) (K A T : Nat → Int32) : Prop := ∀ j : Nat, (j : Int) < n.toInt → ∃ u : Nat, f j = some u ∧ zPu po u (K j) (A j) (T j)
/-- the elements of a row lie between two numbers -/
def zRg (f : Nat → Int32) (lo hi : Int) : Prop := ∀ j : Nat, lo ≤ (f j).toInt ∧ (f j).toInt ≤ hi
theorem zRg_upd {f : Nat → Int32} {lo hi : Int} {k : Nat} {v : Int32} (h : zRg f lo hi) (h1 : lo ≤ v.toInt) (h2 : v.toInt ≤ hi) : zRg (upd f k v) lo hi := by
  intro j; simp only [upd]; split
  · exact ⟨h1, h2⟩
  · exact h j
theorem zNarZ {v : Int32} (h1 : 0 ≤ v.toInt) (h2 : v.toInt ≤ 1) : vp_nar .boolean v = v := by
  rcases (show v.toInt = 0 ∨ v.toInt = 1 by omega) with h | h
  · obtain rfl : v = 0 := zf_val h (by decide)
    decide
  · obtain rfl : v = 1 := zf_val h (by decide)
    decide
abbrev zR (D : va_G) (tys : List (ClassId × FieldType)) (po : zPool) (ws : va_W) (U : State) : Prop := va_P D vwCl ws U.heap ∧ va_K D vwCl tys U ∧ zN U ∧ zE D po (fun _ => False) U U.heap
abbrev zW (D : va_G) (tys : List (ClassId × FieldType)) (po : zPool) (ws : va_W) (sz : Nat) (U : State) : Prop := U.heap.size = sz ∧ va_P D vwCl ws U.heap ∧ va_K D vwCl tys U ∧ va_D (fun _ => True) ws ∧ zN U ∧ zE D po (va_A ws sz) U U.heap
abbrev zB {S : Type} (D : va_G) (wc : va_W) (sz : Nat) (wq : S → va_W) (u : S) (t : State) : Prop := va_P D vwCl (wq u) t.heap ∧ va_D (va_A wc sz) (wq u)
theorem zR_fb {av : List Value} {D : va_G} {po : zPool} {tys : List (ClassId × FieldType)} {ws : va_W} : FrameBlind (va_Pc av (zR D tys po ws)) := fun a U g mk q => by
  obtain ⟨q0, qP, qK, qN, qZ⟩ := q
  exact ⟨q0, qP, va_K.moved (u := U) (U := U.calling g mk a) (Vm.Alike.refl U.vm) qK, zN.same (u := U) (U := U.calling g mk a) rfl qN, zE.same (u := U) (U := U.calling g mk a) rfl qZ⟩
theorem zW_fb {av : List Value} {D : va_G} {po : zPool} {tys : List (ClassId × FieldType)} {ws : va_W} {sz : Nat} : FrameBlind (va_Pc av (zW D tys po ws sz)) := fun a U g mk q => by
  obtain ⟨q0, q1, qP, qK, qD, qN, qZ⟩ := q
  exact ⟨q0, q1, qP, va_K.moved (u := U) (U := U.calling g mk a) (Vm.Alike.refl U.vm) qK, qD, zN.same (u := U) (U := U.calling g mk a) rfl qN, zE.same (u := U) (U := U.calling g mk a) rfl qZ⟩
theorem zRun {p : Program} {l : Launch} {e : Env} {R : Room} {s : State} {m : MethodId} {args : Array Value} {below : List Frame} {meth : Method} {c : Code} {H : Heap} {locs : List Loc} {cells slots mc ms : Nat} {g : JFrame} {rest : List Value} {Qa : State → Outcome → State → Prop} {free : Addr → Prop} (h : va_Run p l e R s m args below meth c H locs cells slots mc ms g rest Qa free) : CallRun p l e R s m args below meth c H locs cells slots mc ms g rest Qa free := fun T hT X => by
  obtain ⟨v, st₀, t, T', L, h0, X', hL, e1, -, q, st⟩ := h T hT X
  exact ⟨v, st₀, t, T', L, h0, X', hL, e1, q, st⟩
theorem zP_of {D : va_G} {cl : List vw_C} {ws wc : va_W} {H : Heap} (hP : va_P D cl ws H) {is : List Nat} (h : is.map (fun i => ws[i]?) = wc.map some) : va_P D cl wc H := by
  intro k q hk
  have h2 : (wc.map some)[k]? = some (some q) := by simp [hk]
  rw [← h, List.getElem?_map] at h2
  cases h3 : is[k]? with
  | none => rw [h3] at h2; cases h2
  | some i =>
    rw [h3] at h2
    exact hP i q (Option.some.inj h2)
theorem zP_nil {D : va_G} {cl : List vw_C} {H : Heap} : va_P D cl [] H := fun k q h => by simp at h
theorem zD_nil {A : Nat → Prop} : va_D A [] := ⟨fun i j p q h => by simp at h, fun k q h => by simp at h⟩
section ZC
variable {p : Program} {l : Launch} {e : Env} {R : Room} {s : State} {m : MethodId} {args : Array Value} {below : List Frame} {meth : Method} {c : Code} {H : Heap} {locs : List Loc} {cells slots : Nat} {Q : State → Prop} {pc : Nat} {ls : Array Slot}
variable {y : MethodName} {bytes cc : ByteArray} {maxL nL mc ms n index : Nat} {ret : Option FieldType} {wsY : List Cond} {rm : Room} {Ts : List Cond} {own C : String} {b : Addr} {As rest st0 : List Value} {wc ws wr : va_W} {D : va_G} {po : zPool} {tys : List (ClassId × FieldType)} {A : Nat → Prop} {H0 : Heap}
theorem zc_V {post : Int32 → Prop} (S : CallFix p m c cc nL s args Ts own) (hM : Met l y wsY rm (va_Pc (.ref b :: As) (zR D tys po wc)) (vp_Si post) 0 0 (fun _ => False)) (cw : CallW R s args own C index y bytes maxL ret wsY rm 0 0 n) (hK : va_K D vwCl tys s) (hN : zN s) {AZ : Nat → Prop} (hZ : zE D po AZ s H) (hP : va_P D vwCl ws H) (hPc : va_P D vwCl wc H)
    (rv : ∃ cell : Cell, H[b]? = some cell ∧ cell.vm.isStatics = false ∧ s.vm.findClass C = some cell.cls) (hn : As.length = n) (hz : ls.size = nL) (hst : st0 = As.reverse ++ .ref b :: rest) (hw : (rest.map fun v => v.category).sum ≤ 8) (hdg : decode cc pc = .ok (.invokevirtual index, 3)) (hf : cells + 0 ≤ R.cells ∧ slots + 0 ≤ R.slots)
    (kk : ∀ r : Int32, post r → W p l e R s m args below meth c H locs cells slots Q (F0 m (pc + 3) ls (.int r :: rest))) : W p l e R s m args below meth c H locs cells slots Q (F0 m pc ls st0) :=
  vp_callSi (W.runV S hM cw ⟨zR_fb, rv, fun U hU hW => ⟨rfl, by rw [hU]; exact hPc, va_K.moved hW.alike hK, hN.warm hW, by rw [hU]; exact (hZ.warm hW).narrow (fun _ h => h.elim)⟩⟩ rfl hn hz hst (lv_room hw) hdg hf) kk
theorem zc_Vq {post : Option Nat → Prop} (S : CallFix p m c cc nL s args Ts own) (hM : Met l y wsY rm (va_Pc (.ref b :: As) (zR D tys po wc)) (va_Sq post) 0 0 (fun _ => False)) (cw : CallW R s args own C index y bytes maxL ret wsY rm 0 0 n) (hK : va_K D vwCl tys s) (hN : zN s) {AZ : Nat → Prop} (hZ : zE D po AZ s H) (hP : va_P D vwCl ws H) (hPc : va_P D vwCl wc H)
    (rv : ∃ cell : Cell, H[b]? = some cell ∧ cell.vm.isStatics = false ∧ s.vm.findClass C = some cell.cls) (hn : As.length = n) (hz : ls.size = nL) (hst : st0 = As.reverse ++ .ref b :: rest) (hw : (rest.map fun v => v.category).sum ≤ 8) (hdg : decode cc pc = .ok (.invokevirtual index, 3)) (hf : cells + 0 ≤ R.cells ∧ slots + 0 ≤ R.slots)
    (kk : ∀ r : Option Nat, post r → W p l e R s m args below meth c H locs cells slots Q (F0 m (pc + 3) ls (va_rf r :: rest))) : W p l e R s m args below meth c H locs cells slots Q (F0 m pc ls st0) :=
  va_csq (W.runV S hM cw ⟨zR_fb, rv, fun U hU hW => ⟨rfl, by rw [hU]; exact hPc, va_K.moved hW.alike hK, hN.warm hW, by rw [hU]; exact (hZ.warm hW).narrow (fun _ h => h.elim)⟩⟩ rfl hn hz hst (lv_room hw) hdg hf) kk
theorem zc_S {post : Int32 → Prop} (S : CallFix p m c cc nL s args Ts own) (hM : Met l y wsY rm (va_Pc As (zR D tys po [])) (vp_Si post) 0 0 (fun _ => False)) (cw : CallB R s args own index y bytes maxL ret wsY rm 0 0 n ∧ (Cond.static y).before args s = true) (hK : va_K D vwCl tys s) (hN : zN s) {AZ : Nat → Prop} (hZ : zE D po AZ s H) (hn : As.length = n) (hz : ls.size = nL) (hst : st0 = As.reverse ++ rest) (hw : (rest.map fun v => v.category).sum ≤ 8) (hdg : decode cc pc = .ok (.invokestatic index, 3)) (hf : cells + 0 ≤ R.cells ∧ slots + 0 ≤ R.slots)
    (kk : ∀ r : Int32, post r → W p l e R s m args below meth c H locs cells slots Q (F0 m (pc + 3) ls (.int r :: rest))) : W p l e R s m args below meth c H locs cells slots Q (F0 m pc ls st0) :=
  vp_callSi (W.runS S hM cw ⟨zR_fb, fun U hU hW => ⟨rfl, zP_nil, va_K.moved hW.alike hK, hN.warm hW, by rw [hU]; exact (hZ.warm hW).narrow (fun _ h => h.elim)⟩⟩ rfl hn hz hst (lv_room hw) hdg hf) kk
theorem zc_SN {host : String} {post : Int32 → Prop} (S : CallFix p m c cc nL s args Ts own) (hM : Met l y wsY rm (va_Pc As (zR D tys po [])) (vp_Si post) 0 0 (fun _ => False)) (cw : va_CN R s args own index y host bytes maxL ret wsY rm 0 0 n ∧ (Cond.static y).before args s = true ∧ True) (hK : va_K D vwCl tys s) (hN : zN s) {AZ : Nat → Prop} (hZ : zE D po AZ s H) (hn : As.length = n) (hz : ls.size = nL) (hst : st0 = As.reverse ++ rest) (hw : (rest.map fun v => v.category).sum ≤ 8) (hdg : decode cc pc = .ok (.invokestatic index, 3)) (hf : cells + 0 ≤ R.cells ∧ slots + 0 ≤ R.slots)
    (kk : ∀ r : Int32, post r → W p l e R s m args below meth c H locs cells slots Q (F0 m (pc + 3) ls (.int r :: rest))) : W p l e R s m args below meth c H locs cells slots Q (F0 m pc ls st0) :=
  vp_callSi (zRun (va_runSN S hM cw ⟨zR_fb, fun U hU hW => ⟨rfl, zP_nil, va_K.moved hW.alike hK, hN.warm hW, by rw [hU]; exact (hZ.warm hW).narrow (fun _ h => h.elim)⟩⟩ rfl hn hz hst (lv_room hw) hdg hf)) kk
theorem zw_V {S' : Type} {post : Int32 → S' → Prop} {wq : S' → va_W} (S : CallFix p m c cc nL s args Ts own) (hM : Met l y wsY rm (va_Pc (.ref b :: As) (zW D tys po wc H.size)) (va_Qi post (zB D wc H.size wq) (va_A wc H.size)) mc ms (va_A wc H.size)) (cw : CallW R s args own C index y bytes maxL ret wsY rm mc ms n) (hK : va_K D vwCl tys s) (hN : zN s) (hZ : zE D po A s H) (hP : va_P D vwCl ws H) (hD : va_D A ws) (hS : va_S A H0 H locs) (hA : ∀ q, H0.size ≤ q → A q)
    (isC isR : List Nat) (hC : isC.map (fun i => ws[i]?) = wc.map some) (hR : isR.map (fun i => ws[i]?) = wr.map some) (hnC : va_nd isC = true) (hnR : va_nd isR = true) (hdis : ∀ i ∈ isR, i ∉ isC)
    (rv : ∃ cell : Cell, H[b]? = some cell ∧ cell.vm.isStatics = false ∧ s.vm.findClass C = some cell.cls) (hn : As.length = n) (hz : ls.size = nL) (hst : st0 = As.reverse ++ .ref b :: rest) (hw : (rest.map fun v => v.category).sum ≤ 8) (hdg : decode cc pc = .ok (.invokevirtual index, 3)) (hf : cells + mc ≤ R.cells ∧ slots + ms ≤ R.slots)
    (kk : ∀ (r : Int32) (u : S') (H1 : Heap) (locs1 : List Loc), post r u → va_P D vwCl (wr ++ wq u) H1 → va_D A (wr ++ wq u) → va_S A H0 H1 locs1 → W p l e R s m args below meth c H1 locs1 (cells + mc) (slots + ms) Q (F0 m (pc + 3) ls (.int r :: rest))) : W p l e R s m args below meth c H locs cells slots Q (F0 m pc ls st0) := by
  have hF := va_free (wc := wc) hD hS hA isC hC
  have hPc := zP_of hP hC
  have hDc : va_D (fun _ => True) wc := (hD.sub isC hnC hC).weaken (fun _ _ _ _ => trivial)
  refine va_calli (va_runV S hM cw ⟨zW_fb, rv, fun U hU hW => ⟨rfl, by rw [hU], by rw [hU]; exact hPc, va_K.moved hW.alike hK, hDc, hN.warm hW, by rw [hU]; exact (hZ.warm hW).narrow hF⟩⟩ rfl hn hz hst (lv_room hw) hdg hf) hS (fun q _ h => hF q h) hF (fun r u t H1 locs1 ht hvm hw hB hz1 hk1 hS1 => ?_)
  obtain ⟨hP1, hD1⟩ := hB
  rw [ht] at hP1
  obtain ⟨hP2, hD2⟩ := va_join hP hD isC isR hC hR hnR hdis hk1 hF hP1 hD1
  exact kk r u H1 locs1 hw hP2 hD2 hS1
theorem zw_Vv {S' : Type} {post : S' → Prop} {wq : S' → va_W} (S : CallFix p m c cc nL s args Ts own) (hM : Met l y wsY rm (va_Pc (.ref b :: As) (zW D tys po wc H.size)) (va_Qv post (zB D wc H.size wq) (va_A wc H.size)) mc ms (va_A wc H.size)) (cw : CallW R s args own C index y bytes maxL ret wsY rm mc ms n) (hK : va_K D vwCl tys s) (hN : zN s) (hZ : zE D po A s H) (hP : va_P D vwCl ws H) (hD : va_D A ws) (hS : va_S A H0 H locs) (hA : ∀ q, H0.size ≤ q → A q)
    (isC isR : List Nat) (hC : isC.map (fun i => ws[i]?) = wc.map some) (hR : isR.map (fun i => ws[i]?) = wr.map some) (hnC : va_nd isC = true) (hnR : va_nd isR = true) (hdis : ∀ i ∈ isR, i ∉ isC)
    (rv : ∃ cell : Cell, H[b]? = some cell ∧ cell.vm.isStatics = false ∧ s.vm.findClass C = some cell.cls) (hn : As.length = n) (hz : ls.size = nL) (hst : st0 = As.reverse ++ .ref b :: rest) (hw : (rest.map fun v => v.category).sum ≤ 8) (hdg : decode cc pc = .ok (.invokevirtual index, 3)) (hf : cells + mc ≤ R.cells ∧ slots + ms ≤ R.slots)
    (kk : ∀ (u : S') (H1 : Heap) (locs1 : List Loc), post u → va_P D vwCl (wr ++ wq u) H1 → va_D A (wr ++ wq u) → va_S A H0 H1 locs1 → W p l e R s m args below meth c H1 locs1 (cells + mc) (slots + ms) Q (F0 m (pc + 3) ls rest)) : W p l e R s m args below meth c H locs cells slots Q (F0 m pc ls st0) := by
  have hF := va_free (wc := wc) hD hS hA isC hC
  have hPc := zP_of hP hC
  have hDc : va_D (fun _ => True) wc := (hD.sub isC hnC hC).weaken (fun _ _ _ _ => trivial)
  refine va_callv (va_runV S hM cw ⟨zW_fb, rv, fun U hU hW => ⟨rfl, by rw [hU], by rw [hU]; exact hPc, va_K.moved hW.alike hK, hDc, hN.warm hW, by rw [hU]; exact (hZ.warm hW).narrow hF⟩⟩ rfl hn hz hst (lv_room hw) hdg hf) hS (fun q _ h => hF q h) hF (fun u t H1 locs1 ht hvm hw hB hz1 hk1 hS1 => ?_)
  obtain ⟨hP1, hD1⟩ := hB
  rw [ht] at hP1
  obtain ⟨hP2, hD2⟩ := va_join hP hD isC isR hC hR hnR hdis hk1 hF hP1 hD1
  exact kk u H1 locs1 hw hP2 hD2 hS1
theorem zw_Sv {S' : Type} {post : S' → Prop} {wq : S' → va_W} (S : CallFix p m c cc nL s args Ts own) (hM : Met l y wsY rm (va_Pc As (zW D tys po wc H.size)) (va_Qv post (zB D wc H.size wq) (va_A wc H.size)) mc ms (va_A wc H.size)) (cw : CallB R s args own index y bytes maxL ret wsY rm mc ms n ∧ (Cond.static y).before args s = true) (hK : va_K D vwCl tys s) (hN : zN s) (hZ : zE D po A s H) (hP : va_P D vwCl ws H) (hD : va_D A ws) (hS : va_S A H0 H locs) (hA : ∀ q, H0.size ≤ q → A q)
    (isC isR : List Nat) (hC : isC.map (fun i => ws[i]?) = wc.map some) (hR : isR.map (fun i => ws[i]?) = wr.map some) (hnC : va_nd isC = true) (hnR : va_nd isR = true) (hdis : ∀ i ∈ isR, i ∉ isC)
    (hn : As.length = n) (hz : ls.size = nL) (hst : st0 = As.reverse ++ rest) (hw : (rest.map fun v => v.category).sum ≤ 8) (hdg : decode cc pc = .ok (.invokestatic index, 3)) (hf : cells + mc ≤ R.cells ∧ slots + ms ≤ R.slots)
    (kk : ∀ (u : S') (H1 : Heap) (locs1 : List Loc), post u → va_P D vwCl (wr ++ wq u) H1 → va_D A (wr ++ wq u) → va_S A H0 H1 locs1 → W p l e R s m args below meth c H1 locs1 (cells + mc) (slots + ms) Q (F0 m (pc + 3) ls rest)) : W p l e R s m args below meth c H locs cells slots Q (F0 m pc ls st0) := by
  have hF := va_free (wc := wc) hD hS hA isC hC
  have hPc := zP_of hP hC
  have hDc : va_D (fun _ => True) wc := (hD.sub isC hnC hC).weaken (fun _ _ _ _ => trivial)
  refine va_callv (va_runS S hM cw ⟨zW_fb, fun U hU hW => ⟨rfl, by rw [hU], by rw [hU]; exact hPc, va_K.moved hW.alike hK, hDc, hN.warm hW, by rw [hU]; exact (hZ.warm hW).narrow hF⟩⟩ rfl hn hz hst (lv_room hw) hdg hf) hS (fun q _ h => hF q h) hF (fun u t H1 locs1 ht hvm hw hB hz1 hk1 hS1 => ?_)
  obtain ⟨hP1, hD1⟩ := hB
  rw [ht] at hP1
  obtain ⟨hP2, hD2⟩ := va_join hP hD isC isR hC hR hnR hdis hk1 hF hP1 hD1
  exact kk u H1 locs1 hw hP2 hD2 hS1
theorem zw_I {S' : Type} {post : S' → Prop} {wq : S' → va_W} (S : CallFix p m c cc nL s args Ts own) (hM : Met l y wsY rm (va_Pc (.ref b :: As) (zW D tys po wc H.size)) (va_Qv post (zB D wc H.size wq) (va_A wc H.size)) mc ms (va_A wc H.size)) (cw : CallB R s args own index y bytes maxL none wsY rm mc ms n ∧ y.name = "<init>" ∧ (Cond.instanceMethod y).before args s = true) (hK : va_K D vwCl tys s) (hN : zN s) (hZ : zE D po A s H) (hP : va_P D vwCl ws H) (hD : va_D A ws) (hS : va_S A H0 H locs) (hA : ∀ q, H0.size ≤ q → A q)
    (isC isR : List Nat) (hC : isC.map (fun i => ws[i]?) = wc.map some) (hR : isR.map (fun i => ws[i]?) = wr.map some) (hnC : va_nd isC = true) (hnR : va_nd isR = true) (hdis : ∀ i ∈ isR, i ∉ isC)
    (hn : As.length = n) (hz : ls.size = nL) (hst : st0 = As.reverse ++ .ref b :: rest) (hw : (rest.map fun v => v.category).sum ≤ 8) (hdg : decode cc pc = .ok (.invokespecial index, 3)) (hf : cells + mc ≤ R.cells ∧ slots + ms ≤ R.slots)
    (kk : ∀ (u : S') (H1 : Heap) (locs1 : List Loc), post u → va_P D vwCl (wr ++ wq u) H1 → va_D A (wr ++ wq u) → va_S A H0 H1 locs1 → W p l e R s m args below meth c H1 locs1 (cells + mc) (slots + ms) Q (F0 m (pc + 3) ls rest)) : W p l e R s m args below meth c H locs cells slots Q (F0 m pc ls st0) := by
  have hF := va_free (wc := wc) hD hS hA isC hC
  have hPc := zP_of hP hC
  have hDc : va_D (fun _ => True) wc := (hD.sub isC hnC hC).weaken (fun _ _ _ _ => trivial)
  refine va_callv (va_runI S hM cw ⟨zW_fb, fun U hU hW => ⟨rfl, by rw [hU], by rw [hU]; exact hPc, va_K.moved hW.alike hK, hDc, hN.warm hW, by rw [hU]; exact (hZ.warm hW).narrow hF⟩⟩ rfl hn hz hst (lv_room hw) hdg hf) hS (fun q _ h => hF q h) hF (fun u t H1 locs1 ht hvm hw hB hz1 hk1 hS1 => ?_)
  obtain ⟨hP1, hD1⟩ := hB
  rw [ht] at hP1
  obtain ⟨hP2, hD2⟩ := va_join hP hD isC isR hC hR hnR hdis hk1 hF hP1 hD1
  exact kk u H1 locs1 hw hP2 hD2 hS1
theorem zw_IN {host : String} {S' : Type} {post : S' → Prop} {wq : S' → va_W} (S : CallFix p m c cc nL s args Ts own) (hM : Met l y wsY rm (va_Pc (.ref b :: As) (zW D tys po wc H.size)) (va_Qv post (zB D wc H.size wq) (va_A wc H.size)) mc ms (va_A wc H.size)) (cw : va_CN R s args own index y host bytes maxL none wsY rm mc ms n ∧ y.name = "<init>" ∧ (Cond.instanceMethod y).before args s = true) (hK : va_K D vwCl tys s) (hN : zN s) (hZ : zE D po A s H) (hP : va_P D vwCl ws H) (hD : va_D A ws) (hS : va_S A H0 H locs) (hA : ∀ q, H0.size ≤ q → A q)
    (isC isR : List Nat) (hC : isC.map (fun i => ws[i]?) = wc.map some) (hR : isR.map (fun i => ws[i]?) = wr.map some) (hnC : va_nd isC = true) (hnR : va_nd isR = true) (hdis : ∀ i ∈ isR, i ∉ isC)
    (hn : As.length = n) (hz : ls.size = nL) (hst : st0 = As.reverse ++ .ref b :: rest) (hw : (rest.map fun v => v.category).sum ≤ 8) (hdg : decode cc pc = .ok (.invokespecial index, 3)) (hf : cells + mc ≤ R.cells ∧ slots + ms ≤ R.slots)
    (kk : ∀ (u : S') (H1 : Heap) (locs1 : List Loc), post u → va_P D vwCl (wr ++ wq u) H1 → va_D A (wr ++ wq u) → va_S A H0 H1 locs1 → W p l e R s m args below meth c H1 locs1 (cells + mc) (slots + ms) Q (F0 m (pc + 3) ls rest)) : W p l e R s m args below meth c H locs cells slots Q (F0 m pc ls st0) := by
  have hF := va_free (wc := wc) hD hS hA isC hC
  have hPc := zP_of hP hC
  have hDc : va_D (fun _ => True) wc := (hD.sub isC hnC hC).weaken (fun _ _ _ _ => trivial)
  refine va_callv (va_runIN S hM cw ⟨zW_fb, fun U hU hW => ⟨rfl, by rw [hU], by rw [hU]; exact hPc, va_K.moved hW.alike hK, hDc, hN.warm hW, by rw [hU]; exact (hZ.warm hW).narrow hF⟩⟩ rfl hn hz hst (lv_room hw) hdg hf) hS (fun q _ h => hF q h) hF (fun u t H1 locs1 ht hvm hw hB hz1 hk1 hS1 => ?_)
  obtain ⟨hP1, hD1⟩ := hB
  rw [ht] at hP1
  obtain ⟨hP2, hD2⟩ := va_join hP hD isC isR hC hR hnR hdis hk1 hF hP1 hD1
  exact kk u H1 locs1 hw hP2 hD2 hS1
end ZC
