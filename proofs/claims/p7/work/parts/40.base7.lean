/-! the ten words as texts; calls of static methods that write or answer a reference; new pulls -/
theorem zs_len (i : Nat) (hi : i < 10) : (Int32.ofNat (zLen.getD i 0)).toInt = (zLen.getD i 0 : Nat) ∧ 2 ≤ (Int32.ofNat (zLen.getD i 0)).toInt ∧ (Int32.ofNat (zLen.getD i 0)).toInt ≤ 7 := by
  have h : ∀ i : Nat, i < 10 → (Int32.ofNat (zLen.getD i 0)).toInt = (zLen.getD i 0 : Nat) ∧ 2 ≤ (Int32.ofNat (zLen.getD i 0)).toInt ∧ (Int32.ofNat (zLen.getD i 0)).toInt ≤ 7 := by decide +kernel
  exact h i hi
theorem zs_shr0 (x : Int32) : x >>> ((0 : Int32) &&& 31) = x := by
  have h : ((0 : Int32) &&& 31) = 0 := by decide
  rw [h]
  apply Int32.toInt_inj.mp
  simp
/-- a byte of a word, as its char -/
theorem zs_chr (i k : Nat) (hi : i < 10) (hk : k < zLen.getD i 0) : ((((zByt.getD i []).getD k 0) &&& 255).toUInt32 % 65536).toInt32 = (zByt.getD i []).getD k 0 ∧ narrow .char (.int ((zByt.getD i []).getD k 0)) = .int ((zByt.getD i []).getD k 0) := by
  have h : ∀ i : Nat, i < 10 → ∀ k : Nat, k < zLen.getD i 0 → ((((zByt.getD i []).getD k 0) &&& 255).toUInt32 % 65536).toInt32 = (zByt.getD i []).getD k 0 ∧ narrow .char (.int ((zByt.getD i []).getD k 0)) = .int ((zByt.getD i []).getD k 0) := by decide +kernel
  exact h i hi k hk
section ZC
variable {p : Program} {l : Launch} {e : Env} {R : Room} {s : State} {m : MethodId} {args : Array Value} {below : List Frame} {meth : Method} {c : Code} {H : Heap} {locs : List Loc} {cells slots : Nat} {Q : State → Prop} {pc : Nat} {ls : Array Slot}
variable {y : MethodName} {bytes cc : ByteArray} {maxL nL mc ms n index : Nat} {ret : Option FieldType} {wsY : List Cond} {rm : Room} {Ts : List Cond} {own C : String} {b : Addr} {As rest st0 : List Value} {wc ws wr : va_W} {D : va_G} {po : zPool} {tys : List (ClassId × FieldType)} {A : Nat → Prop} {H0 : Heap}
theorem zc_Sq {post : Option Nat → Prop} (S : CallFix p m c cc nL s args Ts own) (hM : Met l y wsY rm (va_Pc As (zR D tys po [])) (va_Sq post) 0 0 (fun _ => False)) (cw : CallB R s args own index y bytes maxL ret wsY rm 0 0 n ∧ (Cond.static y).before args s = true) (hK : va_K D vwCl tys s) (hN : zN s) {AZ : Nat → Prop} (hZ : zE D po AZ s H) (hn : As.length = n) (hz : ls.size = nL) (hst : st0 = As.reverse ++ rest) (hw : (rest.map fun v => v.category).sum ≤ 8) (hdg : decode cc pc = .ok (.invokestatic index, 3)) (hf : cells + 0 ≤ R.cells ∧ slots + 0 ≤ R.slots)
    (kk : ∀ r : Option Nat, post r → W p l e R s m args below meth c H locs cells slots Q (F0 m (pc + 3) ls (va_rf r :: rest))) : W p l e R s m args below meth c H locs cells slots Q (F0 m pc ls st0) :=
  va_csq (W.runS S hM cw ⟨zR_fb, fun U hU hW => ⟨rfl, zP_nil, va_K.moved hW.alike hK, hN.warm hW, by rw [hU]; exact (hZ.warm hW).narrow (fun _ h => h.elim)⟩⟩ rfl hn hz hst (lv_room hw) hdg hf) kk
theorem zw_Si {S' : Type} {post : Int32 → S' → Prop} {wq : S' → va_W} (S : CallFix p m c cc nL s args Ts own) (hM : Met l y wsY rm (va_Pc As (zW D tys po wc H.size)) (va_Qi post (zB D wc H.size wq) (va_A wc H.size)) mc ms (va_A wc H.size)) (cw : CallB R s args own index y bytes maxL ret wsY rm mc ms n ∧ (Cond.static y).before args s = true) (hK : va_K D vwCl tys s) (hN : zN s) (hZ : zE D po A s H) (hP : va_P D vwCl ws H) (hD : va_D A ws) (hS : va_S A H0 H locs) (hA : ∀ q, H0.size ≤ q → A q)
    (isC isR : List Nat) (hC : isC.map (fun i => ws[i]?) = wc.map some) (hR : isR.map (fun i => ws[i]?) = wr.map some) (hnC : va_nd isC = true) (hnR : va_nd isR = true) (hdis : ∀ i ∈ isR, i ∉ isC)
    (hn : As.length = n) (hz : ls.size = nL) (hst : st0 = As.reverse ++ rest) (hw : (rest.map fun v => v.category).sum ≤ 8) (hdg : decode cc pc = .ok (.invokestatic index, 3)) (hf : cells + mc ≤ R.cells ∧ slots + ms ≤ R.slots)
    (kk : ∀ (r : Int32) (u : S') (H1 : Heap) (locs1 : List Loc), post r u → va_P D vwCl (wr ++ wq u) H1 → va_D A (wr ++ wq u) → va_S A H0 H1 locs1 → W p l e R s m args below meth c H1 locs1 (cells + mc) (slots + ms) Q (F0 m (pc + 3) ls (.int r :: rest))) : W p l e R s m args below meth c H locs cells slots Q (F0 m pc ls st0) := by
  have hF := va_free (wc := wc) hD hS hA isC hC
  have hPc := zP_of hP hC
  have hDc : va_D (fun _ => True) wc := (hD.sub isC hnC hC).weaken (fun _ _ _ _ => trivial)
  refine va_calli (va_runS S hM cw ⟨zW_fb, fun U hU hW => ⟨rfl, by rw [hU], by rw [hU]; exact hPc, va_K.moved hW.alike hK, hDc, hN.warm hW, by rw [hU]; exact (hZ.warm hW).narrow hF⟩⟩ rfl hn hz hst (lv_room hw) hdg hf) hS (fun q _ h => hF q h) hF (fun r u t H1 locs1 ht hvm hw hB hz1 hk1 hS1 => ?_)
  obtain ⟨hP1, hD1⟩ := hB
  rw [ht] at hP1
  obtain ⟨hP2, hD2⟩ := va_join hP hD isC isR hC hR hnR hdis hk1 hF hP1 hD1
  exact kk r u H1 locs1 hw hP2 hD2 hS1
end ZC
/-- an item: its word and its numbers, as the reader lets them stand -/
def zItv (w a b c : Int) : Prop := (0 ≤ w ∧ w ≤ 9) ∧ (w = 0 → 4 ≤ a ∧ a ≤ 40) ∧ (w = 1 → 0 ≤ a ∧ a ≤ 39) ∧ (w = 2 → (0 ≤ a ∧ a ≤ 39) ∧ 0 ≤ b ∧ b ≤ 9) ∧ (w = 3 → (0 ≤ a ∧ a ≤ 6) ∧ (0 ≤ b ∧ b ≤ 9) ∧ 1 ≤ c ∧ c ≤ 60) ∧ (w = 4 → 0 ≤ a ∧ a ≤ 24) ∧ (w = 5 → 0 ≤ a ∧ a ≤ 300) ∧ (w = 6 → 0 ≤ a ∧ a ≤ 9) ∧ (w = 7 → 1 ≤ a ∧ a ≤ 9) ∧ (w = 8 → (0 ≤ a ∧ a ≤ 2) ∧ 0 ≤ b ∧ b ≤ 99) ∧ (w = 9 → 0 ≤ a ∧ a ≤ 40)
def zIt (f : Nat → Int32) (s : Nat) : Prop := zItv (f s).toInt (f (s + 1)).toInt (f (s + 2)).toInt (f (s + 3)).toInt
theorem zIt_mk {f : Nat → Int32} {s : Nat} {w a b c : Int32} (h0 : f (s + 0) = w) (h1 : f (s + 1) = a) (h2 : f (s + 2) = b) (h3 : f (s + 3) = c) (h : zItv w.toInt a.toInt b.toInt c.toInt) : zIt f s := by
  unfold zIt; rw [show f s = w from h0, h1, h2, h3]; exact h
theorem zIt_keep {f g : Nat → Int32} {s n : Nat} (h : ∀ j : Nat, j < n → g j = f j) (hn : s + 3 < n) (hf : zIt f s) : zIt g s := by
  unfold zIt; rw [h s (by omega), h (s + 1) (by omega), h (s + 2) (by omega), h (s + 3) (by omega)]; exact hf
/-! worlds with a tail of new pulls -/
theorem zC_app {X pl wc : va_W} {is : List Nat} (h : is.map (fun i => X[i]?) = wc.map some) : is.map (fun i => (X ++ pl)[i]?) = wc.map some := by
  rw [← h]
  apply List.map_congr_left
  intro i hi
  have h1 : X[i]? ∈ is.map (fun i => X[i]?) := List.mem_map_of_mem hi
  rw [h] at h1
  obtain ⟨q, -, e⟩ := List.mem_map.mp h1
  rw [List.getElem?_append_left (List.getElem?_eq_some_iff.mp e.symm).1]
theorem zT_app {X Y : va_W} {np tl : List (Nat × Int32 × Int32 × Int32)} : (X ++ (Y ++ np.map zPo)) ++ tl.map zPo = (X ++ Y) ++ (np ++ tl).map zPo := by simp
theorem zcells {p : Program} {l : Launch} {e : Env} {R : Room} {s : State} {m : MethodId} {args : Array Value} {below : List Frame} {meth : Method} {c : Code} {H : Heap} {locs : List Loc} {cells slots : Nat} {Q : State → Prop} {g : JFrame} (k : ∀ kc ks : Nat, kc = cells → ks = slots → W p l e R s m args below meth c H locs kc ks Q g) : W p l e R s m args below meth c H locs cells slots Q g := k _ _ rfl rfl
section ZT
variable {p : Program} {l : Launch} {e : Env} {R : Room} {s : State} {m : MethodId} {args : Array Value} {below : List Frame} {meth : Method} {c : Code} {H : Heap} {locs : List Loc} {cells slots : Nat} {Q : State → Prop} {pc : Nat} {ls : Array Slot}
variable {y : MethodName} {bytes cc : ByteArray} {maxL nL mc ms n index : Nat} {ret : Option FieldType} {wsY : List Cond} {rm : Room} {Ts : List Cond} {own C : String} {b : Addr} {As rest st0 : List Value} {wc ws wr pl : va_W} {D : va_G} {po : zPool} {tys : List (ClassId × FieldType)} {A : Nat → Prop} {H0 : Heap}
theorem zt_free (hD : va_D A (ws ++ pl)) (hS : va_S A H0 H locs) (hA : ∀ q, H0.size ≤ q → A q) {isC : List Nat} (hC : isC.map (fun i => ws[i]?) = wc.map some) : ∀ q, va_A wc H.size q → A q := va_free (wc := wc) hD hS hA isC (zC_app hC)
theorem zt_Vv {S' : Type} {post : S' → Prop} {wq : S' → va_W} (S : CallFix p m c cc nL s args Ts own) (hM : Met l y wsY rm (va_Pc (.ref b :: As) (zW D tys po wc H.size)) (va_Qv post (zB D wc H.size wq) (va_A wc H.size)) mc ms (va_A wc H.size)) (cw : CallW R s args own C index y bytes maxL ret wsY rm mc ms n) (hK : va_K D vwCl tys s) (hN : zN s) (hP : va_P D vwCl (ws ++ pl) H) (hD : va_D A (ws ++ pl)) (hS : va_S A H0 H locs) (hA : ∀ q, H0.size ≤ q → A q)
    (isC isR : List Nat) (hC : isC.map (fun i => ws[i]?) = wc.map some) (hR : isR.map (fun i => ws[i]?) = wr.map some) (hnC : va_nd isC = true) (hnR : va_nd isR = true) (hdis : ∀ i ∈ isR, i ∉ isC) (hZ : zE D po (va_A wc H.size) s H)
    (rv : ∃ cell : Cell, H[b]? = some cell ∧ cell.vm.isStatics = false ∧ s.vm.findClass C = some cell.cls) (hn : As.length = n) (hz : ls.size = nL) (hst : st0 = As.reverse ++ .ref b :: rest) (hw : (rest.map fun v => v.category).sum ≤ 8) (hdg : decode cc pc = .ok (.invokevirtual index, 3)) (hf : cells + mc ≤ R.cells ∧ slots + ms ≤ R.slots)
    (kk : ∀ (u : S') (H1 : Heap) (locs1 : List Loc), post u → va_P D vwCl ((wr ++ wq u) ++ pl) H1 → va_D A ((wr ++ wq u) ++ pl) → va_S A H0 H1 locs1 → W p l e R s m args below meth c H1 locs1 (cells + mc) (slots + ms) Q (F0 m (pc + 3) ls rest)) : W p l e R s m args below meth c H locs cells slots Q (F0 m pc ls st0) := by
  have hF := zt_free (wc := wc) hD hS hA hC
  have hPc := zP_of hP (zC_app (pl := pl) hC)
  have hDc : va_D (fun _ => True) wc := (hD.sub isC hnC (zC_app hC)).weaken (fun _ _ _ _ => trivial)
  refine va_callv (va_runV S hM cw ⟨zW_fb, rv, fun U hU hW => ⟨rfl, by rw [hU], by rw [hU]; exact hPc, va_K.moved hW.alike hK, hDc, hN.warm hW, by rw [hU]; exact hZ.warm hW⟩⟩ rfl hn hz hst (lv_room hw) hdg hf) hS (fun q _ h => hF q h) hF (fun u t H1 locs1 ht hvm hw hB hz1 hk1 hS1 => ?_)
  obtain ⟨hP1, hD1⟩ := hB
  rw [ht] at hP1
  obtain ⟨hP2, hD2⟩ := va_joinQ hP hD isC isR hC hR hnR hdis hk1 hF hP1 hD1
  exact kk u H1 locs1 hw hP2 hD2 hS1
theorem zt_V {S' : Type} {post : Int32 → S' → Prop} {wq : S' → va_W} (S : CallFix p m c cc nL s args Ts own) (hM : Met l y wsY rm (va_Pc (.ref b :: As) (zW D tys po wc H.size)) (va_Qi post (zB D wc H.size wq) (va_A wc H.size)) mc ms (va_A wc H.size)) (cw : CallW R s args own C index y bytes maxL ret wsY rm mc ms n) (hK : va_K D vwCl tys s) (hN : zN s) (hP : va_P D vwCl (ws ++ pl) H) (hD : va_D A (ws ++ pl)) (hS : va_S A H0 H locs) (hA : ∀ q, H0.size ≤ q → A q)
    (isC isR : List Nat) (hC : isC.map (fun i => ws[i]?) = wc.map some) (hR : isR.map (fun i => ws[i]?) = wr.map some) (hnC : va_nd isC = true) (hnR : va_nd isR = true) (hdis : ∀ i ∈ isR, i ∉ isC) (hZ : zE D po (va_A wc H.size) s H)
    (rv : ∃ cell : Cell, H[b]? = some cell ∧ cell.vm.isStatics = false ∧ s.vm.findClass C = some cell.cls) (hn : As.length = n) (hz : ls.size = nL) (hst : st0 = As.reverse ++ .ref b :: rest) (hw : (rest.map fun v => v.category).sum ≤ 8) (hdg : decode cc pc = .ok (.invokevirtual index, 3)) (hf : cells + mc ≤ R.cells ∧ slots + ms ≤ R.slots)
    (kk : ∀ (r : Int32) (u : S') (H1 : Heap) (locs1 : List Loc), post r u → va_P D vwCl ((wr ++ wq u) ++ pl) H1 → va_D A ((wr ++ wq u) ++ pl) → va_S A H0 H1 locs1 → W p l e R s m args below meth c H1 locs1 (cells + mc) (slots + ms) Q (F0 m (pc + 3) ls (.int r :: rest))) : W p l e R s m args below meth c H locs cells slots Q (F0 m pc ls st0) := by
  have hF := zt_free (wc := wc) hD hS hA hC
  have hPc := zP_of hP (zC_app (pl := pl) hC)
  have hDc : va_D (fun _ => True) wc := (hD.sub isC hnC (zC_app hC)).weaken (fun _ _ _ _ => trivial)
  refine va_calli (va_runV S hM cw ⟨zW_fb, rv, fun U hU hW => ⟨rfl, by rw [hU], by rw [hU]; exact hPc, va_K.moved hW.alike hK, hDc, hN.warm hW, by rw [hU]; exact hZ.warm hW⟩⟩ rfl hn hz hst (lv_room hw) hdg hf) hS (fun q _ h => hF q h) hF (fun r u t H1 locs1 ht hvm hw hB hz1 hk1 hS1 => ?_)
  obtain ⟨hP1, hD1⟩ := hB
  rw [ht] at hP1
  obtain ⟨hP2, hD2⟩ := va_joinQ hP hD isC isR hC hR hnR hdis hk1 hF hP1 hD1
  exact kk r u H1 locs1 hw hP2 hD2 hS1
theorem zt_Vl {S' : Type} {post : Int64 → S' → Prop} {wq : S' → va_W} (S : CallFix p m c cc nL s args Ts own) (hM : Met l y wsY rm (va_Pc (.ref b :: As) (zW D tys po wc H.size)) (va_Ql post (zB D wc H.size wq) (va_A wc H.size)) mc ms (va_A wc H.size)) (cw : CallW R s args own C index y bytes maxL ret wsY rm mc ms n) (hK : va_K D vwCl tys s) (hN : zN s) (hP : va_P D vwCl (ws ++ pl) H) (hD : va_D A (ws ++ pl)) (hS : va_S A H0 H locs) (hA : ∀ q, H0.size ≤ q → A q)
    (isC isR : List Nat) (hC : isC.map (fun i => ws[i]?) = wc.map some) (hR : isR.map (fun i => ws[i]?) = wr.map some) (hnC : va_nd isC = true) (hnR : va_nd isR = true) (hdis : ∀ i ∈ isR, i ∉ isC) (hZ : zE D po (va_A wc H.size) s H)
    (rv : ∃ cell : Cell, H[b]? = some cell ∧ cell.vm.isStatics = false ∧ s.vm.findClass C = some cell.cls) (hn : As.length = n) (hz : ls.size = nL) (hst : st0 = As.reverse ++ .ref b :: rest) (hw : (rest.map fun v => v.category).sum ≤ 8) (hdg : decode cc pc = .ok (.invokevirtual index, 3)) (hf : cells + mc ≤ R.cells ∧ slots + ms ≤ R.slots)
    (kk : ∀ (r : Int64) (u : S') (H1 : Heap) (locs1 : List Loc), post r u → va_P D vwCl ((wr ++ wq u) ++ pl) H1 → va_D A ((wr ++ wq u) ++ pl) → va_S A H0 H1 locs1 → W p l e R s m args below meth c H1 locs1 (cells + mc) (slots + ms) Q (F0 m (pc + 3) ls (.long r :: rest))) : W p l e R s m args below meth c H locs cells slots Q (F0 m pc ls st0) := by
  have hF := zt_free (wc := wc) hD hS hA hC
  have hPc := zP_of hP (zC_app (pl := pl) hC)
  have hDc : va_D (fun _ => True) wc := (hD.sub isC hnC (zC_app hC)).weaken (fun _ _ _ _ => trivial)
  refine va_calll (va_runV S hM cw ⟨zW_fb, rv, fun U hU hW => ⟨rfl, by rw [hU], by rw [hU]; exact hPc, va_K.moved hW.alike hK, hDc, hN.warm hW, by rw [hU]; exact hZ.warm hW⟩⟩ rfl hn hz hst (lv_room hw) hdg hf) hS (fun q _ h => hF q h) hF (fun r u t H1 locs1 ht hvm hw hB hz1 hk1 hS1 => ?_)
  obtain ⟨hP1, hD1⟩ := hB
  rw [ht] at hP1
  obtain ⟨hP2, hD2⟩ := va_joinQ hP hD isC isR hC hR hnR hdis hk1 hF hP1 hD1
  exact kk r u H1 locs1 hw hP2 hD2 hS1
end ZT
/-- the pulls of a row, among a list of pulls, with these kinds, numbers A and seconds -/
def zJL (L : List (Nat × Int32 × Int32 × Int32)) (f : Nat → Option Nat) (n : Int32) (K A T : Nat → Int32) : Prop := ∀ j : Nat, (j : Int) < n.toInt → ∃ u : Nat, f j = some u ∧ (u, K j, A j, T j) ∈ L
def zWL (L : List (Nat × Int32 × Int32 × Int32)) (f : Nat → Option Nat) : Prop := ∀ j : Nat, f j = none ∨ ∃ (u : Nat) (k a t : Int32), f j = some u ∧ (u, k, a, t) ∈ L
/-- a row of pulls, and what it is behind the making of these new ones -/
def zExt (np : List (Nat × Int32 × Int32 × Int32)) (f : Nat → Option Nat) (n : Int32) (K A T : Nat → Int32) (f2 : Nat → Option Nat) (n2 : Int32) (K2 A2 T2 : Nat → Int32) : Prop := ∀ L : List (Nat × Int32 × Int32 × Int32), zJL L f n K A T → zWL L f → zJL (np ++ L) f2 n2 K2 A2 T2 ∧ zWL (np ++ L) f2
theorem zExt.refl {f : Nat → Option Nat} {n : Int32} {K A T : Nat → Int32} : zExt [] f n K A T f n K A T := fun _ h1 h2 => ⟨h1, h2⟩
theorem zExt.trans {np nq : List (Nat × Int32 × Int32 × Int32)} {f f2 f3 : Nat → Option Nat} {n n2 n3 : Int32} {K A T K2 A2 T2 K3 A3 T3 : Nat → Int32} (h1 : zExt np f n K A T f2 n2 K2 A2 T2) (h2 : zExt nq f2 n2 K2 A2 T2 f3 n3 K3 A3 T3) : zExt (nq ++ np) f n K A T f3 n3 K3 A3 T3 := fun L h3 h4 => by
  obtain ⟨h5, h6⟩ := h1 L h3 h4
  rw [List.append_assoc]
  exact h2 _ h5 h6
theorem zExt_new {q : Nat} {ki a t : Int32} {f : Nat → Option Nat} {n n2 : Int32} {K A T : Nat → Int32} (h0 : 0 ≤ n.toInt) (h : n2.toInt = n.toInt + 1) : zExt [(q, ki, a, t)] f n K A T (va_up f n.toNatClampNeg (some q)) n2 (upd K n.toNatClampNeg ki) (upd A n.toNatClampNeg a) (upd T n.toNatClampNeg t) := by
  intro L h1 h2
  have hn : n.toNatClampNeg = n.toInt.toNat := rfl
  refine ⟨fun j hj => ?_, fun j => ?_⟩
  · by_cases e : j = n.toNatClampNeg
    · subst e
      refine ⟨q, by simp [va_up], ?_⟩
      simp [upd]
    · obtain ⟨u, h3, h4⟩ := h1 j (by omega)
      refine ⟨u, by simp only [va_up]; rw [if_neg e]; exact h3, ?_⟩
      simp only [upd]; rw [if_neg e, if_neg e, if_neg e]
      exact List.mem_cons_of_mem _ h4
  · by_cases e : j = n.toNatClampNeg
    · subst e
      exact Or.inr ⟨q, ki, a, t, by simp [va_up], by simp⟩
    · rcases h2 j with h3 | ⟨u, k, a', t', h3, h4⟩
      · exact Or.inl (by simp only [va_up]; rw [if_neg e]; exact h3)
      · exact Or.inr ⟨u, k, a', t', by simp only [va_up]; rw [if_neg e]; exact h3, List.mem_cons_of_mem _ h4⟩
/-- what row answers -/
def zRow (s o n : Int) : Int := if s < 0 then -1 else if 7 < s then -1 else if n < 0 then -4 else if o < 0 then -6 else if 3 < o then -6 else if 160 < n then -7 else 1

