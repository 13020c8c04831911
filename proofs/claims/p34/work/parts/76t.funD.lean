section
set_option maxHeartbeats 4000000 in
set_option maxRecDepth 100000 in
theorem c_F_J_addPull (l : Launch) (D : va_G) (cI cJ cZ cP cS : ClassId) (po : zPool) (j0 jp jc z0 zl zs : Nat) (cn de tr se hu sd : Int32) (fp : Nat → Option Nat) (kf af tf : Nat → Int32) (ki a_ ta : Int32) (hy0 : 0 ≤ cn.toInt) (hy1 : cn.toInt ≤ 8) (hy2 : 0 ≤ de.toInt) (hy3 : de.toInt ≤ 24) (hy4 : 0 ≤ hu.toInt) (hy5 : hu.toInt ≤ 9) (hy6 : 0 ≤ ki.toInt) (hy7 : ki.toInt ≤ 6) (hy8 : 0 ≤ a_.toInt) (hy9 : a_.toInt ≤ 9) (hy10 : 1 ≤ ta.toInt) (hy11 : ta.toInt ≤ 60) (hpz : Nat) : Met l yX0_addPull wsX0_addPull ({ frames := 2, cells := 1, slots := 3, locals := 35 }) (va_Pc [.ref j0, .int ki, .int a_, .int ta] (zW D (zKT cI cJ cZ cP cS) po [(j0, .inr (0, [.ref z0, .ref jp, .ref jc, .int cn, .int de, .int tr, .int se, .int hu, .int sd])), (jp, .inl (cP, 8, .inr (.inr (.inr (.inr fp)))))] hpz)) (va_Qi (fun (r : Int32) (u : (Int32) × (Nat → Option Nat) × (Nat → Int32) × (Nat → Int32) × (Nat → Int32) × (List (Nat × Int32 × Int32 × Int32))) => (0 ≤ u.1.toInt ∧ u.1.toInt ≤ 8) ∧ (∀ z ∈ u.2.2.2.2.2, zPr z.2.1 z.2.2.1 z.2.2.2) ∧ (zExt u.2.2.2.2.2 fp cn kf af tf u.2.1 u.1 u.2.2.1 u.2.2.2.1 u.2.2.2.2.1) ∧ ((cn.toInt < 8 → u.1.toInt = cn.toInt + 1 ∧ r.toInt = cn.toInt)) ∧ ((cn.toInt < 8 → u.2.2.1 = upd kf cn.toNatClampNeg ki ∧ u.2.2.2.1 = upd af cn.toNatClampNeg a_ ∧ u.2.2.2.2.1 = upd tf cn.toNatClampNeg ta)) ∧ (True)) (zB D [(j0, .inr (0, [.ref z0, .ref jp, .ref jc, .int cn, .int de, .int tr, .int se, .int hu, .int sd])), (jp, .inl (cP, 8, .inr (.inr (.inr (.inr fp)))))] hpz (fun (u : (Int32) × (Nat → Option Nat) × (Nat → Int32) × (Nat → Int32) × (Nat → Int32) × (List (Nat × Int32 × Int32 × Int32))) => ([(j0, .inr (0, [.ref z0, .ref jp, .ref jc, .int u.1, .int de, .int tr, .int se, .int hu, .int sd])), (jp, .inl (cP, 8, .inr (.inr (.inr (.inr u.2.1)))))] ++ u.2.2.2.2.2.map zPo))) (va_A [(j0, .inr (0, [.ref z0, .ref jp, .ref jc, .int cn, .int de, .int tr, .int se, .int hu, .int sd])), (jp, .inl (cP, 8, .inr (.inr (.inr (.inr fp)))))] hpz)) 1 3 (va_A [(j0, .inr (0, [.ref z0, .ref jp, .ref jc, .int cn, .int de, .int tr, .int se, .int hu, .int sd])), (jp, .inl (cP, 8, .inr (.inr (.inr (.inr fp)))))] hpz) := by
  refine Met.ofW (cc := cX0_addPull) (maxL := 4) (ret := (some .int)) (by decide) rfl ?_
  intro p e s m args below meth c s₁ B hml hv
  obtain ⟨rfl, hsz, hP, hK, hD0, hN, hZ⟩ := hv
  have hx := B.exec
  have hb := B.bytes
  have hr := B.returns
  have hts := atoms_spec (ws := wsX0_addPull) B.pre
  have hown : s.vm.findClass RX0 = some m.cls := findClass_of_methodNamed B.named
  have hlocks := B.notSynchronized
  subst hsz
  have hD := hD0.self (sz := s.heap.size)
  have hA := zA_of hD
  have hl := lv_entry ([.ref j0, .int ki, .int a_, .int ta]) (n := 4) (Nat.le_of_ble_eq_true rfl)
  rw [lg_entry_eq]
  generalize (lg_sl ([.ref j0, .int ki, .int a_, .int ta]) ++ List.replicate (4 - (lg_sl ([.ref j0, .int ki, .int a_, .int ta])).length) Slot.unset).toArray = ls at hl ⊢
  replace hl : lv_has ls 4 [(0, .ref j0), (1, .int ki), (2, .int a_), (3, .int ta)] := hl
  refine zw_begin hP hD (fun H locs hP1 hS => ?_)
  clear hP
  have hP := hP1
  clear hP1
  refine lv_aload_n hx hb dX0_addPull_0 rfl (lv_at hl 0 rfl) ?_
  refine va_get (D := D) (ci := 0) (v := .int cn) (C := RX0) (T := TX0) (N := 9) hx hb hts hi_X0_addPull_0 hown hK hP 0 rfl rfl 3 (by decide) (hts (.fieldLink RX0 28 "TheLiningsInIt$Jacket" "pullCount" "I") (List.mem_of_getElem? (i := 1) rfl)) (fun _ h9 => h9) rfl dX0_addPull_1 ?_
  refine lv_bipush (v := 8) hx hb dX0_addPull_4 (by decide) ?_
  refine lv_icmp_lt (tgt := 11) hx hb dX0_addPull_6 (by decide) (fun c_1 => ?_) (fun c_1 => ?_)
  · have fc_1 : cn.toInt < 8 := zf_lt c_1 rfl (by decide)
    refine lv_aload_n hx hb dX0_addPull_11 rfl (lv_at hl 0 rfl) ?_
    refine va_get (D := D) (ci := 0) (v := .ref jp) (C := RX0) (T := TX0) (N := 9) hx hb hts hi_X0_addPull_0 hown hK hP 0 rfl rfl 1 (by decide) (hts (.fieldLink RX0 20 "TheLiningsInIt$Jacket" "pulls" "[LTheLiningsInIt$Pull;") (List.mem_of_getElem? (i := 2) rfl)) (fun _ h9 => h9) rfl dX0_addPull_12 ?_
    refine lv_aload_n hx hb dX0_addPull_15 rfl (lv_at hl 0 rfl) ?_
    refine va_get (D := D) (ci := 0) (v := .int cn) (C := RX0) (T := TX0) (N := 9) hx hb hts hi_X0_addPull_0 hown hK hP 0 rfl rfl 3 (by decide) (hts (.fieldLink RX0 28 "TheLiningsInIt$Jacket" "pullCount" "I") (List.mem_of_getElem? (i := 1) rfl)) (fun _ h9 => h9) rfl dX0_addPull_16 ?_
    refine va_new (ci := 2) (fs := [.int 0, .int 0, .int 0]) (C := RX2) (T := TX2) (N := 3) hx hb hts hi_X0_addPull_2 tyX2 tyX2_ok hown (hts (.classLink RX0 18 RX2) (List.mem_of_getElem? (i := 3) rfl)) (hts _ (List.mem_of_getElem? (i := 4) rfl)) (hts _ (List.mem_of_getElem? (i := 5) rfl)) hK hP hD hS hA rfl (fun j hj => by rcases (show j = 0 ∨ j = 1 ∨ j = 2 by omega) with rfl | rfl | rfl <;> rfl) (Nat.le_of_ble_eq_true rfl) (Nat.le_of_ble_eq_true rfl) dX0_addPull_19 (fun q_2 H hP hD hS => ?_)
    have h9R := zRe (ws' := [(j0, .inr (0, [.ref z0, .ref jp, .ref jc, .int cn, .int de, .int tr, .int se, .int hu, .int sd])), (jp, .inl (cP, 8, .inr (.inr (.inr (.inr fp))))), (q_2, .inr (2, [.int 0, .int 0, .int 0]))]) hP hD rfl
    clear hP hD
    obtain ⟨hP, hD⟩ := h9R
    refine W.widen (k := 1) (n := 3) (Nat.le_of_ble_eq_true rfl) (Nat.le_of_ble_eq_true rfl) ?_
    refine lv_dup hx hb dX0_addPull_22 rfl ?_
    refine lv_iload_n hx hb dX0_addPull_23 rfl (lv_at hl 1 rfl) ?_
    refine lv_iload_n hx hb dX0_addPull_24 rfl (lv_at hl 2 rfl) ?_
    refine lv_iload_n hx hb dX0_addPull_25 rfl (lv_at hl 3 rfl) ?_
    skip
    refine zw_I (As := [.int ki, .int a_, .int ta]) (rest := [.ref q_2, .int cn, .ref jp]) (wr := [(j0, .inr (0, [.ref z0, .ref jp, .ref jc, .int cn, .int de, .int tr, .int se, .int hu, .int sd])), (jp, .inl (cP, 8, .inr (.inr (.inr (.inr fp)))))]) ⟨hx, hb, hml, hown, hts⟩ (c_Pull_init l D cI cJ cZ cP cS po q_2 (ki) (a_) (ta)  H.size) (cwI 3 hts gX0_addPull_X2_init rfl rfl rfl (hts _ (List.mem_of_getElem? (i := 5) rfl)) (hts (.methodLink RX0 70 yX2_init) (List.mem_of_getElem? (i := 6) rfl)) (hts _ (List.mem_of_getElem? (i := 7) rfl)) rfl dh_X2_init ⟨Nat.le_of_ble_eq_true rfl, Nat.le_of_ble_eq_true rfl⟩) hK hN (hZ.kept hS) hP hD hS hA [2] [0, 1] rfl rfl (by decide) (by decide) (by decide) rfl hl.1 rfl (Nat.le_of_ble_eq_true rfl) dX0_addPull_26 ⟨Nat.le_of_ble_eq_true rfl, Nat.le_of_ble_eq_true rfl⟩ (fun u_4 H locs hr_3 hP hD hS => ?_)
    have h9R := zRe (ws' := [(j0, .inr (0, [.ref z0, .ref jp, .ref jc, .int cn, .int de, .int tr, .int se, .int hu, .int sd])), (jp, .inl (cP, 8, .inr (.inr (.inr (.inr fp))))), (q_2, .inr (2, [.int ki, .int a_, .int ta]))]) hP hD rfl
    clear hP hD
    obtain ⟨hP, hD⟩ := h9R
    refine va_astq hx hb hK hP hD hS 1 3 2 2 rfl rfl rfl rfl (zf_in (by omega) (by omega)) dX0_addPull_29 (fun H locs hP hD hS => ?_)
    have h9R := zRe (ws' := [(j0, .inr (0, [.ref z0, .ref jp, .ref jc, .int cn, .int de, .int tr, .int se, .int hu, .int sd])), (jp, .inl (cP, 8, .inr (.inr (.inr (.inr (va_up fp cn.toNatClampNeg (some q_2))))))), (q_2, .inr (2, [.int ki, .int a_, .int ta]))]) hP hD rfl
    clear hP hD
    obtain ⟨hP, hD⟩ := h9R
    refine lv_aload_n hx hb dX0_addPull_30 rfl (lv_at hl 0 rfl) ?_
    refine lv_dup hx hb dX0_addPull_31 rfl ?_
    refine va_get (D := D) (ci := 0) (v := .int cn) (C := RX0) (T := TX0) (N := 9) hx hb hts hi_X0_addPull_0 hown hK hP 0 rfl rfl 3 (by decide) (hts (.fieldLink RX0 28 "TheLiningsInIt$Jacket" "pullCount" "I") (List.mem_of_getElem? (i := 1) rfl)) (fun _ h9 => h9) rfl dX0_addPull_32 ?_
    refine lv_dup_x1 hx hb dX0_addPull_35 rfl rfl ?_
    refine lv_iconst (v := 1) hx hb dX0_addPull_36 (by decide) ?_
    refine lv_iadd hx hb dX0_addPull_37 ?_
    refine lv_topi (fun x_5 ex_5 => ?_)
    have qx_5 : x_5.toInt = cn.toInt + 1 := dw_incK ex_5 fc_1 (by decide)
    refine va_put (D := D) (ci := 0) (v := .int x_5) (ty := .int) (C := RX0) (T := TX0) (N := 9) hx hb hts hi_X0_addPull_0 tyX0 tyX0_ok nmX0 hown hK hP hD hS 0 rfl rfl 3 (by decide) (hts (.fieldLink RX0 28 "TheLiningsInIt$Jacket" "pullCount" "I") (List.mem_of_getElem? (i := 1) rfl)) (fun _ h9 => h9) rfl (tyX0_ok 3 (Nat.le_of_ble_eq_true rfl)) rfl rfl (Nat.le_of_ble_eq_true rfl) dX0_addPull_38 (fun H locs hP hD hS => ?_)
    have h9R := zRe (ws' := [(j0, .inr (0, [.ref z0, .ref jp, .ref jc, .int x_5, .int de, .int tr, .int se, .int hu, .int sd])), (jp, .inl (cP, 8, .inr (.inr (.inr (.inr (va_up fp cn.toNatClampNeg (some q_2))))))), (q_2, .inr (2, [.int ki, .int a_, .int ta]))]) hP hD rfl
    clear hP hD
    obtain ⟨hP, hD⟩ := h9R
    refine W.widen (k := 1) (n := 3) (Nat.le_of_ble_eq_true rfl) (Nat.le_of_ble_eq_true rfl) ?_
    exact W.iret (v := cn) hx hb hr (fun t ht hW => ⟨⟨cn, (x_5, (va_up fp cn.toNatClampNeg (some q_2)), (upd kf cn.toNatClampNeg ki), (upd af cn.toNatClampNeg a_), (upd tf cn.toNatClampNeg ta), [(q_2, (ki : Int32), (a_ : Int32), (ta : Int32))]), rfl, ⟨(show 0 ≤ x_5.toInt ∧ x_5.toInt ≤ 8 from ⟨by omega, by omega⟩), (by intro z hz; simp only [List.mem_cons, List.not_mem_nil, or_false] at hz; subst hz; exact ⟨⟨by omega, by omega⟩, ⟨by omega, by omega⟩, by omega, by omega⟩), (show zExt ([(q_2, (ki : Int32), (a_ : Int32), (ta : Int32))]) fp cn kf af tf (va_up fp cn.toNatClampNeg (some q_2)) x_5 (upd kf cn.toNatClampNeg ki) (upd af cn.toNatClampNeg a_) (upd tf cn.toNatClampNeg ta) from by first | exact zExt.refl | exact zExt_new (by omega) (by omega)), (show (cn.toInt < 8 → x_5.toInt = cn.toInt + 1 ∧ (cn : Int32).toInt = cn.toInt) from by (intro h; first | omega | (exfalso; omega))), (show (cn.toInt < 8 → (upd kf cn.toNatClampNeg ki) = upd kf cn.toNatClampNeg ki ∧ (upd af cn.toNatClampNeg a_) = upd af cn.toNatClampNeg a_ ∧ (upd tf cn.toNatClampNeg ta) = upd tf cn.toNatClampNeg ta) from by (intro h; first | exact ⟨rfl, rfl, rfl⟩ | (exfalso; omega))), trivial⟩, zRet ht hP hD [0, 1, 2] (by decide) rfl⟩, hS.F ht⟩) hS.2.2 dX0_addPull_41
  · have fc_1 : 8 ≤ cn.toInt := zf_nlt c_1 rfl (by decide)
    refine lv_iconst (v := (-1)) hx hb dX0_addPull_9 (by decide) ?_
    refine W.widen (k := 1) (n := 3) (Nat.le_of_ble_eq_true rfl) (Nat.le_of_ble_eq_true rfl) ?_
    exact W.iret (v := (-1)) hx hb hr (fun t ht hW => ⟨⟨(-1), (cn, fp, kf, af, tf, []), rfl, ⟨(show 0 ≤ cn.toInt ∧ cn.toInt ≤ 8 from ⟨hy0, hy1⟩), (by intro z hz; simp at hz), (show zExt [] fp cn kf af tf fp cn kf af tf from by first | exact zExt.refl | exact zExt_new (by omega) (by omega)), (show (cn.toInt < 8 → cn.toInt = cn.toInt + 1 ∧ ((-1) : Int32).toInt = cn.toInt) from by (intro h; first | omega | (exfalso; omega))), (show (cn.toInt < 8 → kf = upd kf cn.toNatClampNeg ki ∧ af = upd af cn.toNatClampNeg a_ ∧ tf = upd tf cn.toNatClampNeg ta) from by (intro h; first | exact ⟨rfl, rfl, rfl⟩ | (exfalso; omega))), trivial⟩, zRet ht hP hD [0, 1] (by decide) rfl⟩, hS.F ht⟩) hS.2.2 dX0_addPull_10
set_option maxHeartbeats 4000000 in
set_option maxRecDepth 100000 in
theorem c_F_Zip_renew (l : Launch) (D : va_G) (cI cJ cZ cP cS : ClassId) (po : zPool) (z0 zl zs : Nat) (sz at_ gp : Int32) (fl fs : Nat → Int32) (n : Int32) (hy0 : 4 ≤ sz.toInt) (hy1 : sz.toInt ≤ 40) (hy2 : 0 ≤ at_.toInt) (hy3 : at_.toInt ≤ 40) (hy4 : 1 ≤ gp.toInt) (hy5 : gp.toInt ≤ 9) (hy6 : 4 ≤ n.toInt) (hy7 : n.toInt ≤ 40) (hp_fl : zRg fl (0) 1) (hp_fs : zRg fs (0) 9) (hpz : Nat) : Met l yX6_renew wsX6_renew ({ frames := 0, cells := 0, slots := 0, locals := 0 }) (va_Pc [.ref z0, .int n] (zW D (zKT cI cJ cZ cP cS) po [(z0, .inr (6, [.ref zl, .ref zs, .int sz, .int at_, .int gp])), (zl, .inl (cZ, 40, .inl fl)), (zs, .inl (cI, 40, .inl fs))] hpz)) (va_Qv (fun (u : (Int32) × (Int32) × (Nat → Int32) × (Nat → Int32)) => (4 ≤ u.1.toInt ∧ u.1.toInt ≤ 40) ∧ (0 ≤ u.2.1.toInt ∧ u.2.1.toInt ≤ 40) ∧ zRg u.2.2.1 (0) 1 ∧ zRg u.2.2.2 (0) 9 ∧ (u.1 = n) ∧ ((∀ j : Nat, j < 40 → u.2.2.1 j = 0)) ∧ ((∀ j : Nat, j < 40 → u.2.2.2 j = 0)) ∧ (u.2.1.toInt = 0) ∧ (True)) (zB D [(z0, .inr (6, [.ref zl, .ref zs, .int sz, .int at_, .int gp])), (zl, .inl (cZ, 40, .inl fl)), (zs, .inl (cI, 40, .inl fs))] hpz (fun (u : (Int32) × (Int32) × (Nat → Int32) × (Nat → Int32)) => [(z0, .inr (6, [.ref zl, .ref zs, .int u.1, .int u.2.1, .int gp])), (zl, .inl (cZ, 40, .inl u.2.2.1)), (zs, .inl (cI, 40, .inl u.2.2.2))])) (va_A [(z0, .inr (6, [.ref zl, .ref zs, .int sz, .int at_, .int gp])), (zl, .inl (cZ, 40, .inl fl)), (zs, .inl (cI, 40, .inl fs))] hpz)) 0 0 (va_A [(z0, .inr (6, [.ref zl, .ref zs, .int sz, .int at_, .int gp])), (zl, .inl (cZ, 40, .inl fl)), (zs, .inl (cI, 40, .inl fs))] hpz) := by
  refine Met.ofW (cc := cX6_renew) (maxL := 3) (ret := none) (by decide) rfl ?_
  intro p e s m args below meth c s₁ B hml hv
  obtain ⟨rfl, hsz, hP, hK, hD0, hN, hZ⟩ := hv
  have hx := B.exec
  have hb := B.bytes
  have hr := B.returns
  have hts := atoms_spec (ws := wsX6_renew) B.pre
  have hown : s.vm.findClass RX6 = some m.cls := findClass_of_methodNamed B.named
  have hlocks := B.notSynchronized
  subst hsz
  have hD := hD0.self (sz := s.heap.size)
  have hA := zA_of hD
  have hl := lv_entry ([.ref z0, .int n]) (n := 3) (Nat.le_of_ble_eq_true rfl)
  rw [lg_entry_eq]
  generalize (lg_sl ([.ref z0, .int n]) ++ List.replicate (3 - (lg_sl ([.ref z0, .int n])).length) Slot.unset).toArray = ls at hl ⊢
  replace hl : lv_has ls 3 [(0, .ref z0), (1, .int n)] := hl
  refine zw_begin hP hD (fun H locs hP1 hS => ?_)
  clear hP
  have hP := hP1
  clear hP1
  refine lv_aload_n hx hb dX6_renew_0 rfl (lv_at hl 0 rfl) ?_
  refine lv_iload_n hx hb dX6_renew_1 rfl (lv_at hl 1 rfl) ?_
  refine va_put (D := D) (ci := 6) (v := .int n) (ty := .int) (C := RX6) (T := TX6) (N := 5) hx hb hts hi_X6_renew_6 tyX6 tyX6_ok nmX6 hown hK hP hD hS 0 rfl rfl 2 (by decide) (hts (.fieldLink RX6 19 "TheLiningsInIt$Zip" "size" "I") (List.mem_of_getElem? (i := 1) rfl)) (fun _ h9 => h9) rfl (tyX6_ok 2 (Nat.le_of_ble_eq_true rfl)) rfl rfl (Nat.le_of_ble_eq_true rfl) dX6_renew_2 (fun H locs hP hD hS => ?_)
  have h9R := zRe (ws' := [(z0, .inr (6, [.ref zl, .ref zs, .int n, .int at_, .int gp])), (zl, .inl (cZ, 40, .inl fl)), (zs, .inl (cI, 40, .inl fs))]) hP hD rfl
  clear hP hD
  obtain ⟨hP, hD⟩ := h9R
  refine lv_aload_n hx hb dX6_renew_5 rfl (lv_at hl 0 rfl) ?_
  refine lv_iconst (v := 0) hx hb dX6_renew_6 (by decide) ?_
  refine va_put (D := D) (ci := 6) (v := .int 0) (ty := .int) (C := RX6) (T := TX6) (N := 5) hx hb hts hi_X6_renew_6 tyX6 tyX6_ok nmX6 hown hK hP hD hS 0 rfl rfl 3 (by decide) (hts (.fieldLink RX6 23 "TheLiningsInIt$Zip" "at" "I") (List.mem_of_getElem? (i := 2) rfl)) (fun _ h9 => h9) rfl (tyX6_ok 3 (Nat.le_of_ble_eq_true rfl)) rfl rfl (Nat.le_of_ble_eq_true rfl) dX6_renew_7 (fun H locs hP hD hS => ?_)
  have h9R := zRe (ws' := [(z0, .inr (6, [.ref zl, .ref zs, .int n, .int 0, .int gp])), (zl, .inl (cZ, 40, .inl fl)), (zs, .inl (cI, 40, .inl fs))]) hP hD rfl
  clear hP hD
  obtain ⟨hP, hD⟩ := h9R
  refine lv_iconst (v := 0) hx hb dX6_renew_10 (by decide) ?_
  refine lv_istore_n (lv' := [(2, .int 0), (0, .ref z0), (1, .int n)]) hx hb dX6_renew_11 rfl hl (by decide) rfl (fun ls hl => ?_)
  obtain ⟨i_12, hi_12⟩ : ∃ i : Int32, i = 0 := ⟨_, rfl⟩
  replace hl : lv_has ls 3 [(2, .int i_12), (0, .ref z0), (1, .int n)] := by rw [hi_12]; exact lv_sub hl [0, 1, 2] rfl
  have h1i_12 : i_12.toInt = 0 := by rw [hi_12]; decide
  obtain ⟨nfu, hni_12⟩ : ∃ nq9 : Nat, 40 ≤ i_12.toInt + (nq9 : Int) := ⟨((40 : Int) - 0).toNat, by omega⟩
  have hloi_12 : 0 ≤ i_12.toInt := by omega
  obtain ⟨g_1, hg_1⟩ : ∃ g : Nat → Int32, g = fl := ⟨_, rfl⟩
  have hpg_1 : zRg g_1 (0) 1 := by rw [hg_1]; exact hp_fl
  obtain ⟨g_2, hg_2⟩ : ∃ g : Nat → Int32, g = fs := ⟨_, rfl⟩
  have hpg_2 : zRg g_2 (0) 9 := by rw [hg_2]; exact hp_fs
  replace hP : va_P D vwCl [(z0, .inr (6, [.ref zl, .ref zs, .int n, .int 0, .int gp])), (zl, .inl (cZ, 40, .inl g_1)), (zs, .inl (cI, 40, .inl g_2))] H := by rw [hg_1, hg_2]; exact hP
  replace hD : va_D (va_A [(z0, .inr (6, [.ref zl, .ref zs, .int sz, .int at_, .int gp])), (zl, .inl (cZ, 40, .inl fl)), (zs, .inl (cI, 40, .inl fs))] s.heap.size) [(z0, .inr (6, [.ref zl, .ref zs, .int n, .int 0, .int gp])), (zl, .inl (cZ, 40, .inl g_1)), (zs, .inl (cI, 40, .inl g_2))] := by rw [hg_1, hg_2]; exact hD
  have hvi_12_0 : (∀ j : Nat, (j : Int) < i_12.toInt → g_1 j = 0) := by
    (try rw [hi_12]); (try rw [hg_1]); (try rw [hg_2]); (intro j hj; exfalso; have k0 : (0 : Int32).toInt = 0 := (by decide); omega)
  have hvi_12_1 : (∀ j : Nat, (j : Int) < i_12.toInt → g_2 j = 0) := by
    (try rw [hi_12]); (try rw [hg_1]); (try rw [hg_2]); (intro j hj; exfalso; have k0 : (0 : Int32).toInt = 0 := (by decide); omega)
  clear h1i_12 hi_12 hg_1 hg_2
  skip
  revert hni_12
  revert hloi_12
  revert hvi_12_1
  revert hvi_12_0
  revert hpg_2
  revert hpg_1
  revert hl
  revert hS
  revert hD
  revert hP
  revert ls
  revert locs
  revert H
  revert g_1
  revert g_2
  revert i_12
  induction nfu with
  | zero =>
    intro i_12 g_2 g_1 H locs ls hP hD hS hl hpg_1 hpg_2 hvi_12_0 hvi_12_1 hloi_12 hni_12
    have hzi_12 : 40 ≤ i_12.toInt := by omega
    refine lv_iload_n hx hb dX6_renew_12 rfl (lv_at hl 0 rfl) ?_
    refine lv_bipush (v := 40) hx hb dX6_renew_13 (by decide) ?_
    refine lv_icmp_ge (tgt := 38) hx hb dX6_renew_15 (by decide) (fun c_3 => ?_) (fun c_3 => ?_)
    · have fc_3 : 40 ≤ i_12.toInt := zf_le c_3 (by decide) rfl
      exact W.vret hx hb hr (fun t ht hW => ⟨⟨(n, 0, g_1, g_2), rfl, ⟨(show 4 ≤ n.toInt ∧ n.toInt ≤ 40 from ⟨hy6, hy7⟩), (show 0 ≤ (0 : Int32).toInt ∧ (0 : Int32).toInt ≤ 40 from by decide), hpg_1, hpg_2, (show n = n from by rfl), (show (∀ j : Nat, j < 40 → g_1 j = 0) from by (intro j hj; exact hvi_12_0 j (by omega))), (show (∀ j : Nat, j < 40 → g_2 j = 0) from by (intro j hj; exact hvi_12_1 j (by omega))), (show (0 : Int32).toInt = 0 from by decide), trivial⟩, zRet ht hP hD [0, 1, 2] (by decide) rfl⟩, hS.F ht⟩) hS.2.2 dX6_renew_38
    · exfalso; have fc_3 : i_12.toInt < 40 := zf_nle c_3 (by decide) rfl; omega
  | succ nfu ih =>
    intro i_12 g_2 g_1 H locs ls hP hD hS hl hpg_1 hpg_2 hvi_12_0 hvi_12_1 hloi_12 hni_12
    refine lv_iload_n hx hb dX6_renew_12 rfl (lv_at hl 0 rfl) ?_
    refine lv_bipush (v := 40) hx hb dX6_renew_13 (by decide) ?_
    refine lv_icmp_ge (tgt := 38) hx hb dX6_renew_15 (by decide) (fun c_4 => ?_) (fun c_4 => ?_)
    · have fc_4 : 40 ≤ i_12.toInt := zf_le c_4 (by decide) rfl
      exact W.vret hx hb hr (fun t ht hW => ⟨⟨(n, 0, g_1, g_2), rfl, ⟨(show 4 ≤ n.toInt ∧ n.toInt ≤ 40 from ⟨hy6, hy7⟩), (show 0 ≤ (0 : Int32).toInt ∧ (0 : Int32).toInt ≤ 40 from by decide), hpg_1, hpg_2, (show n = n from by rfl), (show (∀ j : Nat, j < 40 → g_1 j = 0) from by (intro j hj; exact hvi_12_0 j (by omega))), (show (∀ j : Nat, j < 40 → g_2 j = 0) from by (intro j hj; exact hvi_12_1 j (by omega))), (show (0 : Int32).toInt = 0 from by decide), trivial⟩, zRet ht hP hD [0, 1, 2] (by decide) rfl⟩, hS.F ht⟩) hS.2.2 dX6_renew_38
    · have fc_4 : i_12.toInt < 40 := zf_nle c_4 (by decide) rfl
      refine lv_aload_n hx hb dX6_renew_18 rfl (lv_at hl 1 rfl) ?_
      refine va_get (D := D) (ci := 6) (v := .ref zl) (C := RX6) (T := TX6) (N := 5) hx hb hts hi_X6_renew_6 hown hK hP 0 rfl rfl 0 (by decide) (hts (.fieldLink RX6 9 "TheLiningsInIt$Zip" "lacking" "[Z") (List.mem_of_getElem? (i := 3) rfl)) (fun _ h9 => h9) rfl dX6_renew_19 ?_
      refine lv_iload_n hx hb dX6_renew_22 rfl (lv_at hl 0 rfl) ?_
      refine lv_iconst (v := 0) hx hb dX6_renew_23 (by decide) ?_
      refine va_zast hx hb hK hP hD hS 1 2 rfl rfl (zf_in (by omega) (by omega)) dX6_renew_24 (fun H locs hP hD hS => ?_)
      rw [zNarZ (by decide) (by decide)] at hP hD
      have hpg_5 : zRg (upd g_1 i_12.toNatClampNeg 0) (0) 1 := zRg_upd hpg_1 (by decide) (by decide)
      obtain ⟨g_5, hg_5⟩ : ∃ g : Nat → Int32, g = upd g_1 i_12.toNatClampNeg 0 := ⟨_, rfl⟩
      rw [← hg_5] at hP hD hpg_5
      have h9R := zRe (ws' := [(z0, .inr (6, [.ref zl, .ref zs, .int n, .int 0, .int gp])), (zl, .inl (cZ, 40, .inl g_5)), (zs, .inl (cI, 40, .inl g_2))]) hP hD rfl
      clear hP hD
      obtain ⟨hP, hD⟩ := h9R
      refine lv_aload_n hx hb dX6_renew_25 rfl (lv_at hl 1 rfl) ?_
      refine va_get (D := D) (ci := 6) (v := .ref zs) (C := RX6) (T := TX6) (N := 5) hx hb hts hi_X6_renew_6 hown hK hP 0 rfl rfl 1 (by decide) (hts (.fieldLink RX6 15 "TheLiningsInIt$Zip" "slacks" "[I") (List.mem_of_getElem? (i := 4) rfl)) (fun _ h9 => h9) rfl dX6_renew_26 ?_
      refine lv_iload_n hx hb dX6_renew_29 rfl (lv_at hl 0 rfl) ?_
      refine lv_iconst (v := 0) hx hb dX6_renew_30 (by decide) ?_
      refine va_iast hx hb hK hP hD hS 2 0 rfl rfl (zf_in (by omega) (by omega)) dX6_renew_31 (fun H locs hP hD hS => ?_)
      have hpg_6 : zRg (upd g_2 i_12.toNatClampNeg 0) (0) 9 := zRg_upd hpg_2 (by decide) (by decide)
      obtain ⟨g_6, hg_6⟩ : ∃ g : Nat → Int32, g = upd g_2 i_12.toNatClampNeg 0 := ⟨_, rfl⟩
      rw [← hg_6] at hP hD hpg_6
      have h9R := zRe (ws' := [(z0, .inr (6, [.ref zl, .ref zs, .int n, .int 0, .int gp])), (zl, .inl (cZ, 40, .inl g_5)), (zs, .inl (cI, 40, .inl g_6))]) hP hD rfl
      clear hP hD
      obtain ⟨hP, hD⟩ := h9R
      obtain ⟨x_7, ex_7⟩ : ∃ y : Int32, y = i_12 + 1 := ⟨_, rfl⟩
      have qx_7 : x_7.toInt = i_12.toInt + 1 := dw_incK ex_7 fc_4 (by decide)
      refine lv_iinc (v := x_7) (lv' := [(2, .int x_7), (0, .ref z0), (1, .int n)]) hx hb dX6_renew_32 hl (k := 0) rfl ex_7.symm (by decide) rfl (fun ls hl => ?_)
      refine lv_goto (tgt := 12) hx hb dX6_renew_35 (by decide) ?_
      exact ih x_7 (g_6) (g_5) _ _ _ (hP.sub [0, 1, 2] rfl) (hD.sub [0, 1, 2] (by decide) rfl) hS (lv_sub hl [0, 1, 2] rfl) hpg_5 hpg_6 (show (∀ j : Nat, (j : Int) < x_7.toInt → g_5 j = 0) from by (intro j hj; rw [hg_5]; simp only [upd]; have h7 : i_12.toNatClampNeg = i_12.toInt.toNat := rfl; by_cases e9 : j = i_12.toNatClampNeg; (rw [if_pos e9]); (rw [if_neg e9]; exact hvi_12_0 j (by omega)))) (show (∀ j : Nat, (j : Int) < x_7.toInt → g_6 j = 0) from by (intro j hj; rw [hg_6]; simp only [upd]; have h7 : i_12.toNatClampNeg = i_12.toInt.toNat := rfl; by_cases e9 : j = i_12.toNatClampNeg; (rw [if_pos e9]); (rw [if_neg e9]; exact hvi_12_1 j (by omega)))) (dw_lo hloi_12 qx_7) (dw_hn hni_12 qx_7)
set_option maxHeartbeats 4000000 in
set_option maxRecDepth 100000 in
theorem c_F_J_setNumber (l : Launch) (D : va_G) (cI cJ cZ cP cS : ClassId) (po : zPool) (j0 jp jc z0 zl zs : Nat) (cn de tr se hu sd : Int32) (sz at_ gp : Int32) (fc : Nat → Int32) (w v : Int32) (hy0 : 0 ≤ cn.toInt) (hy1 : cn.toInt ≤ 8) (hy2 : 0 ≤ de.toInt) (hy3 : de.toInt ≤ 24) (hy4 : 0 ≤ hu.toInt) (hy5 : hu.toInt ≤ 9) (hy6 : 4 ≤ sz.toInt) (hy7 : sz.toInt ≤ 40) (hy8 : 0 ≤ at_.toInt) (hy9 : at_.toInt ≤ 40) (hy10 : 1 ≤ gp.toInt) (hy11 : gp.toInt ≤ 9) (hy12 : 0 ≤ w.toInt) (hy13 : w.toInt ≤ 7) (hset : (w.toInt = 0 → v.toInt ≤ 24) ∧ (w.toInt = 2 → v.toInt ≤ 9) ∧ (w.toInt = 3 → 1 ≤ v.toInt ∧ v.toInt ≤ 9) ∧ (w.toInt = 7 → v.toInt ≤ 40) ∧ (4 ≤ w.toInt → w.toInt ≤ 6 → v.toInt ≤ 99) ∧ 0 ≤ v.toInt) (hp_fc : zRg fc (0) 99) (hp_fc : zRg fc (0) 99) (hpz : Nat) : Met l yX0_setNumber wsX0_setNumber ({ frames := 1, cells := 0, slots := 0, locals := 22 }) (va_Pc [.ref j0, .int w, .int v] (zW D (zKT cI cJ cZ cP cS) po [(j0, .inr (0, [.ref z0, .ref jp, .ref jc, .int cn, .int de, .int tr, .int se, .int hu, .int sd])), (z0, .inr (6, [.ref zl, .ref zs, .int sz, .int at_, .int gp])), (jc, .inl (cI, 3, .inl fc))] hpz)) (va_Qv (fun (u : (Int32) × (Int32) × (Int32) × (Int32) × (Int32) × (Nat → Int32)) => (0 ≤ u.1.toInt ∧ u.1.toInt ≤ 24) ∧ (0 ≤ u.2.2.1.toInt ∧ u.2.2.1.toInt ≤ 9) ∧ (0 ≤ u.2.2.2.1.toInt ∧ u.2.2.2.1.toInt ≤ 40) ∧ (1 ≤ u.2.2.2.2.1.toInt ∧ u.2.2.2.2.1.toInt ≤ 9) ∧ zRg u.2.2.2.2.2 (0) 99 ∧ (u.1.toInt = (if w.toInt = 0 then v.toInt else de.toInt) ∧ u.2.1.toInt = (if w.toInt = 1 then v.toInt else se.toInt) ∧ u.2.2.1.toInt = (if w.toInt = 2 then v.toInt else hu.toInt) ∧ u.2.2.2.2.1.toInt = (if w.toInt = 3 then v.toInt else gp.toInt) ∧ u.2.2.2.1.toInt = (if w.toInt = 7 then v.toInt else at_.toInt)) ∧ ((w.toInt < 4 ∨ 6 < w.toInt → u.2.2.2.2.2 = fc) ∧ (4 ≤ w.toInt → w.toInt ≤ 6 → u.2.2.2.2.2 = upd fc (w.toInt - 4).toNat v)) ∧ (True)) (zB D [(j0, .inr (0, [.ref z0, .ref jp, .ref jc, .int cn, .int de, .int tr, .int se, .int hu, .int sd])), (z0, .inr (6, [.ref zl, .ref zs, .int sz, .int at_, .int gp])), (jc, .inl (cI, 3, .inl fc))] hpz (fun (u : (Int32) × (Int32) × (Int32) × (Int32) × (Int32) × (Nat → Int32)) => [(j0, .inr (0, [.ref z0, .ref jp, .ref jc, .int cn, .int u.1, .int tr, .int u.2.1, .int u.2.2.1, .int sd])), (z0, .inr (6, [.ref zl, .ref zs, .int sz, .int u.2.2.2.1, .int u.2.2.2.2.1])), (jc, .inl (cI, 3, .inl u.2.2.2.2.2))])) (va_A [(j0, .inr (0, [.ref z0, .ref jp, .ref jc, .int cn, .int de, .int tr, .int se, .int hu, .int sd])), (z0, .inr (6, [.ref zl, .ref zs, .int sz, .int at_, .int gp])), (jc, .inl (cI, 3, .inl fc))] hpz)) 0 0 (va_A [(j0, .inr (0, [.ref z0, .ref jp, .ref jc, .int cn, .int de, .int tr, .int se, .int hu, .int sd])), (z0, .inr (6, [.ref zl, .ref zs, .int sz, .int at_, .int gp])), (jc, .inl (cI, 3, .inl fc))] hpz) := by
  refine Met.ofW (cc := cX0_setNumber) (maxL := 3) (ret := none) (by decide) rfl ?_
  intro p e s m args below meth c s₁ B hml hv
  obtain ⟨rfl, hsz, hP, hK, hD0, hN, hZ⟩ := hv
  have hx := B.exec
  have hb := B.bytes
  have hr := B.returns
  have hts := atoms_spec (ws := wsX0_setNumber) B.pre
  have hown : s.vm.findClass RX0 = some m.cls := findClass_of_methodNamed B.named
  have hlocks := B.notSynchronized
  subst hsz
  have hD := hD0.self (sz := s.heap.size)
  have hA := zA_of hD
  have hl := lv_entry ([.ref j0, .int w, .int v]) (n := 3) (Nat.le_of_ble_eq_true rfl)
  rw [lg_entry_eq]
  generalize (lg_sl ([.ref j0, .int w, .int v]) ++ List.replicate (3 - (lg_sl ([.ref j0, .int w, .int v])).length) Slot.unset).toArray = ls at hl ⊢
  replace hl : lv_has ls 3 [(0, .ref j0), (1, .int w), (2, .int v)] := hl
  refine zw_begin hP hD (fun H locs hP1 hS => ?_)
  clear hP
  have hP := hP1
  clear hP1
  refine lv_iload_n hx hb dX0_setNumber_0 rfl (lv_at hl 1 rfl) ?_
  have hsp : w = 0 ∨ w = 1 ∨ w = 2 ∨ w = 3 ∨ w = 4 ∨ w = 5 ∨ w = 6 ∨ w = 7 := by
    rcases (show w.toInt = 0 ∨ w.toInt = 1 ∨ w.toInt = 2 ∨ w.toInt = 3 ∨ w.toInt = 4 ∨ w.toInt = 5 ∨ w.toInt = 6 ∨ w.toInt = 7 by omega) with h9 | h9 | h9 | h9 | h9 | h9 | h9 | h9
    · refine Or.inl ?_; exact zf_val h9 (by decide)
    · refine Or.inr (Or.inl ?_); exact zf_val h9 (by decide)
    · refine Or.inr (Or.inr (Or.inl ?_)); exact zf_val h9 (by decide)
    · refine Or.inr (Or.inr (Or.inr (Or.inl ?_))); exact zf_val h9 (by decide)
    · refine Or.inr (Or.inr (Or.inr (Or.inr (Or.inl ?_)))); exact zf_val h9 (by decide)
    · refine Or.inr (Or.inr (Or.inr (Or.inr (Or.inr (Or.inl ?_))))); exact zf_val h9 (by decide)
    · refine Or.inr (Or.inr (Or.inr (Or.inr (Or.inr (Or.inr (Or.inl ?_)))))); exact zf_val h9 (by decide)
    · refine Or.inr (Or.inr (Or.inr (Or.inr (Or.inr (Or.inr (Or.inr (?_))))))); exact zf_val h9 (by decide)
  rcases hsp with rfl | rfl | rfl | rfl | rfl | rfl | rfl | rfl
  · have kc0 : (0 : Int32).toInt = 0 := by decide
    refine lv_tableIn (tgt := 48) hx hb dX0_setNumber_1 (by decide) (by decide) rfl (by decide) ?_
    refine lv_aload_n hx hb dX0_setNumber_48 rfl (lv_at hl 0 rfl) ?_
    refine lv_iload_n hx hb dX0_setNumber_49 rfl (lv_at hl 2 rfl) ?_
    refine va_put (D := D) (ci := 0) (v := .int v) (ty := .int) (C := RX0) (T := TX0) (N := 9) hx hb hts hi_X0_setNumber_0 tyX0 tyX0_ok nmX0 hown hK hP hD hS 0 rfl rfl 4 (by decide) (hts (.fieldLink RX0 32 "TheLiningsInIt$Jacket" "depth" "I") (List.mem_of_getElem? (i := 1) rfl)) (fun _ h9 => h9) rfl (tyX0_ok 4 (Nat.le_of_ble_eq_true rfl)) rfl rfl (Nat.le_of_ble_eq_true rfl) dX0_setNumber_50 (fun H locs hP hD hS => ?_)
    have h9R := zRe (ws' := [(j0, .inr (0, [.ref z0, .ref jp, .ref jc, .int cn, .int v, .int tr, .int se, .int hu, .int sd])), (z0, .inr (6, [.ref zl, .ref zs, .int sz, .int at_, .int gp])), (jc, .inl (cI, 3, .inl fc))]) hP hD rfl
    clear hP hD
    obtain ⟨hP, hD⟩ := h9R
    refine lv_goto (tgt := 114) hx hb dX0_setNumber_53 (by decide) ?_
    exact W.vret hx hb hr (fun t ht hW => ⟨⟨(v, se, hu, at_, gp, fc), rfl, ⟨(show 0 ≤ v.toInt ∧ v.toInt ≤ 24 from ⟨by omega, by omega⟩), (show 0 ≤ hu.toInt ∧ hu.toInt ≤ 9 from ⟨hy4, hy5⟩), (show 0 ≤ at_.toInt ∧ at_.toInt ≤ 40 from ⟨hy8, hy9⟩), (show 1 ≤ gp.toInt ∧ gp.toInt ≤ 9 from ⟨hy10, hy11⟩), hp_fc, (show v.toInt = (if (0 : Int32).toInt = 0 then v.toInt else de.toInt) ∧ se.toInt = (if (0 : Int32).toInt = 1 then v.toInt else se.toInt) ∧ hu.toInt = (if (0 : Int32).toInt = 2 then v.toInt else hu.toInt) ∧ gp.toInt = (if (0 : Int32).toInt = 3 then v.toInt else gp.toInt) ∧ at_.toInt = (if (0 : Int32).toInt = 7 then v.toInt else at_.toInt) from by (refine ⟨?_, ?_, ?_, ?_, ?_⟩ <;> ((repeat (first | rw [if_pos (by omega)] | rw [if_neg (by omega)])) <;> first | rfl | omega))), (show ((0 : Int32).toInt < 4 ∨ 6 < (0 : Int32).toInt → fc = fc) ∧ (4 ≤ (0 : Int32).toInt → (0 : Int32).toInt ≤ 6 → fc = upd fc ((0 : Int32).toInt - 4).toNat v) from by (exact ⟨fun _ => rfl, fun h1 h2 => by (exfalso; omega)⟩)), trivial⟩, zRet ht hP hD [0, 1, 2] (by decide) rfl⟩, hS.F ht⟩) hS.2.2 dX0_setNumber_114
  · have kc1 : (1 : Int32).toInt = 1 := by decide
    refine lv_tableIn (tgt := 56) hx hb dX0_setNumber_1 (by decide) (by decide) rfl (by decide) ?_
    refine lv_aload_n hx hb dX0_setNumber_56 rfl (lv_at hl 0 rfl) ?_
    refine lv_iload_n hx hb dX0_setNumber_57 rfl (lv_at hl 2 rfl) ?_
    refine va_put (D := D) (ci := 0) (v := .int v) (ty := .int) (C := RX0) (T := TX0) (N := 9) hx hb hts hi_X0_setNumber_0 tyX0 tyX0_ok nmX0 hown hK hP hD hS 0 rfl rfl 6 (by decide) (hts (.fieldLink RX0 38 "TheLiningsInIt$Jacket" "seconds" "I") (List.mem_of_getElem? (i := 2) rfl)) (fun _ h9 => h9) rfl (tyX0_ok 6 (Nat.le_of_ble_eq_true rfl)) rfl rfl (Nat.le_of_ble_eq_true rfl) dX0_setNumber_58 (fun H locs hP hD hS => ?_)
    have h9R := zRe (ws' := [(j0, .inr (0, [.ref z0, .ref jp, .ref jc, .int cn, .int de, .int tr, .int v, .int hu, .int sd])), (z0, .inr (6, [.ref zl, .ref zs, .int sz, .int at_, .int gp])), (jc, .inl (cI, 3, .inl fc))]) hP hD rfl
    clear hP hD
    obtain ⟨hP, hD⟩ := h9R
    refine lv_goto (tgt := 114) hx hb dX0_setNumber_61 (by decide) ?_
    exact W.vret hx hb hr (fun t ht hW => ⟨⟨(de, v, hu, at_, gp, fc), rfl, ⟨(show 0 ≤ de.toInt ∧ de.toInt ≤ 24 from ⟨hy2, hy3⟩), (show 0 ≤ hu.toInt ∧ hu.toInt ≤ 9 from ⟨hy4, hy5⟩), (show 0 ≤ at_.toInt ∧ at_.toInt ≤ 40 from ⟨hy8, hy9⟩), (show 1 ≤ gp.toInt ∧ gp.toInt ≤ 9 from ⟨hy10, hy11⟩), hp_fc, (show de.toInt = (if (1 : Int32).toInt = 0 then v.toInt else de.toInt) ∧ v.toInt = (if (1 : Int32).toInt = 1 then v.toInt else se.toInt) ∧ hu.toInt = (if (1 : Int32).toInt = 2 then v.toInt else hu.toInt) ∧ gp.toInt = (if (1 : Int32).toInt = 3 then v.toInt else gp.toInt) ∧ at_.toInt = (if (1 : Int32).toInt = 7 then v.toInt else at_.toInt) from by (refine ⟨?_, ?_, ?_, ?_, ?_⟩ <;> ((repeat (first | rw [if_pos (by omega)] | rw [if_neg (by omega)])) <;> first | rfl | omega))), (show ((1 : Int32).toInt < 4 ∨ 6 < (1 : Int32).toInt → fc = fc) ∧ (4 ≤ (1 : Int32).toInt → (1 : Int32).toInt ≤ 6 → fc = upd fc ((1 : Int32).toInt - 4).toNat v) from by (exact ⟨fun _ => rfl, fun h1 h2 => by (exfalso; omega)⟩)), trivial⟩, zRet ht hP hD [0, 1, 2] (by decide) rfl⟩, hS.F ht⟩) hS.2.2 dX0_setNumber_114
  · have kc2 : (2 : Int32).toInt = 2 := by decide
    refine lv_tableIn (tgt := 64) hx hb dX0_setNumber_1 (by decide) (by decide) rfl (by decide) ?_
    refine lv_aload_n hx hb dX0_setNumber_64 rfl (lv_at hl 0 rfl) ?_
    refine lv_iload_n hx hb dX0_setNumber_65 rfl (lv_at hl 2 rfl) ?_
    refine va_put (D := D) (ci := 0) (v := .int v) (ty := .int) (C := RX0) (T := TX0) (N := 9) hx hb hts hi_X0_setNumber_0 tyX0 tyX0_ok nmX0 hown hK hP hD hS 0 rfl rfl 7 (by decide) (hts (.fieldLink RX0 41 "TheLiningsInIt$Jacket" "hurry" "I") (List.mem_of_getElem? (i := 3) rfl)) (fun _ h9 => h9) rfl (tyX0_ok 7 (Nat.le_of_ble_eq_true rfl)) rfl rfl (Nat.le_of_ble_eq_true rfl) dX0_setNumber_66 (fun H locs hP hD hS => ?_)
    have h9R := zRe (ws' := [(j0, .inr (0, [.ref z0, .ref jp, .ref jc, .int cn, .int de, .int tr, .int se, .int v, .int sd])), (z0, .inr (6, [.ref zl, .ref zs, .int sz, .int at_, .int gp])), (jc, .inl (cI, 3, .inl fc))]) hP hD rfl
    clear hP hD
    obtain ⟨hP, hD⟩ := h9R
    refine lv_goto (tgt := 114) hx hb dX0_setNumber_69 (by decide) ?_
    exact W.vret hx hb hr (fun t ht hW => ⟨⟨(de, se, v, at_, gp, fc), rfl, ⟨(show 0 ≤ de.toInt ∧ de.toInt ≤ 24 from ⟨hy2, hy3⟩), (show 0 ≤ v.toInt ∧ v.toInt ≤ 9 from ⟨by omega, by omega⟩), (show 0 ≤ at_.toInt ∧ at_.toInt ≤ 40 from ⟨hy8, hy9⟩), (show 1 ≤ gp.toInt ∧ gp.toInt ≤ 9 from ⟨hy10, hy11⟩), hp_fc, (show de.toInt = (if (2 : Int32).toInt = 0 then v.toInt else de.toInt) ∧ se.toInt = (if (2 : Int32).toInt = 1 then v.toInt else se.toInt) ∧ v.toInt = (if (2 : Int32).toInt = 2 then v.toInt else hu.toInt) ∧ gp.toInt = (if (2 : Int32).toInt = 3 then v.toInt else gp.toInt) ∧ at_.toInt = (if (2 : Int32).toInt = 7 then v.toInt else at_.toInt) from by (refine ⟨?_, ?_, ?_, ?_, ?_⟩ <;> ((repeat (first | rw [if_pos (by omega)] | rw [if_neg (by omega)])) <;> first | rfl | omega))), (show ((2 : Int32).toInt < 4 ∨ 6 < (2 : Int32).toInt → fc = fc) ∧ (4 ≤ (2 : Int32).toInt → (2 : Int32).toInt ≤ 6 → fc = upd fc ((2 : Int32).toInt - 4).toNat v) from by (exact ⟨fun _ => rfl, fun h1 h2 => by (exfalso; omega)⟩)), trivial⟩, zRet ht hP hD [0, 1, 2] (by decide) rfl⟩, hS.F ht⟩) hS.2.2 dX0_setNumber_114
  · have kc3 : (3 : Int32).toInt = 3 := by decide
    refine lv_tableIn (tgt := 72) hx hb dX0_setNumber_1 (by decide) (by decide) rfl (by decide) ?_
    refine lv_aload_n hx hb dX0_setNumber_72 rfl (lv_at hl 0 rfl) ?_
    refine va_get (D := D) (ci := 0) (v := .ref z0) (C := RX0) (T := TX0) (N := 9) hx hb hts hi_X0_setNumber_0 hown hK hP 0 rfl rfl 0 (by decide) (hts (.fieldLink RX0 12 "TheLiningsInIt$Jacket" "zip" "LTheLiningsInIt$Zip;") (List.mem_of_getElem? (i := 4) rfl)) (fun _ h9 => h9) rfl dX0_setNumber_73 ?_
    refine lv_iload_n hx hb dX0_setNumber_76 rfl (lv_at hl 2 rfl) ?_
    refine va_put (D := D) (ci := 6) (v := .int v) (ty := .int) (C := RX6) (T := TX6) (N := 5) hx hb hts hi_X0_setNumber_6 tyX6 tyX6_ok nmX6 hown hK hP hD hS 1 rfl rfl 4 (by decide) (hts (.fieldLink RX0 60 "TheLiningsInIt$Zip" "gap" "I") (List.mem_of_getElem? (i := 5) rfl)) (fun _ h9 => h9) rfl (tyX6_ok 4 (Nat.le_of_ble_eq_true rfl)) rfl rfl (Nat.le_of_ble_eq_true rfl) dX0_setNumber_77 (fun H locs hP hD hS => ?_)
    have h9R := zRe (ws' := [(j0, .inr (0, [.ref z0, .ref jp, .ref jc, .int cn, .int de, .int tr, .int se, .int hu, .int sd])), (z0, .inr (6, [.ref zl, .ref zs, .int sz, .int at_, .int v])), (jc, .inl (cI, 3, .inl fc))]) hP hD rfl
    clear hP hD
    obtain ⟨hP, hD⟩ := h9R
    refine lv_goto (tgt := 114) hx hb dX0_setNumber_80 (by decide) ?_
    exact W.vret hx hb hr (fun t ht hW => ⟨⟨(de, se, hu, at_, v, fc), rfl, ⟨(show 0 ≤ de.toInt ∧ de.toInt ≤ 24 from ⟨hy2, hy3⟩), (show 0 ≤ hu.toInt ∧ hu.toInt ≤ 9 from ⟨hy4, hy5⟩), (show 0 ≤ at_.toInt ∧ at_.toInt ≤ 40 from ⟨hy8, hy9⟩), (show 1 ≤ v.toInt ∧ v.toInt ≤ 9 from ⟨by omega, by omega⟩), hp_fc, (show de.toInt = (if (3 : Int32).toInt = 0 then v.toInt else de.toInt) ∧ se.toInt = (if (3 : Int32).toInt = 1 then v.toInt else se.toInt) ∧ hu.toInt = (if (3 : Int32).toInt = 2 then v.toInt else hu.toInt) ∧ v.toInt = (if (3 : Int32).toInt = 3 then v.toInt else gp.toInt) ∧ at_.toInt = (if (3 : Int32).toInt = 7 then v.toInt else at_.toInt) from by (refine ⟨?_, ?_, ?_, ?_, ?_⟩ <;> ((repeat (first | rw [if_pos (by omega)] | rw [if_neg (by omega)])) <;> first | rfl | omega))), (show ((3 : Int32).toInt < 4 ∨ 6 < (3 : Int32).toInt → fc = fc) ∧ (4 ≤ (3 : Int32).toInt → (3 : Int32).toInt ≤ 6 → fc = upd fc ((3 : Int32).toInt - 4).toNat v) from by (exact ⟨fun _ => rfl, fun h1 h2 => by (exfalso; omega)⟩)), trivial⟩, zRet ht hP hD [0, 1, 2] (by decide) rfl⟩, hS.F ht⟩) hS.2.2 dX0_setNumber_114
  · have kc4 : (4 : Int32).toInt = 4 := by decide
    refine lv_tableIn (tgt := 94) hx hb dX0_setNumber_1 (by decide) (by decide) rfl (by decide) ?_
    refine lv_iload_n hx hb dX0_setNumber_94 rfl (lv_at hl 1 rfl) ?_
    refine lv_iconst (v := 4) hx hb dX0_setNumber_95 (by decide) ?_
    refine lv_isub hx hb dX0_setNumber_96 ?_
    refine lv_topi (fun y_1 ey_1 => ?_)
    obtain rfl : y_1 = 0 := ey_1.trans (by decide)
    refine lv_iconst (v := 0) hx hb dX0_setNumber_97 (by decide) ?_
    refine lv_iconst (v := 2) hx hb dX0_setNumber_98 (by decide) ?_
    have kc0 : (0 : Int32).toInt = 0 := by decide
    have kc2 : (2 : Int32).toInt = 2 := by decide
    refine zc_SN (As := [.int 0, .int 0, .int 2]) (rest := []) ⟨hx, hb, hml, hown, hts⟩ (c_within l D cI cJ cZ cP cS po (0) (0) (2) ) ⟨(va_cnB 3 hts gX0_setNumber_X7_within_n66 rfl rfl rfl (hN.1 (RX0, 66, yX7_within) (List.mem_of_getElem? (i := 6) rfl)) (hts _ (List.mem_of_getElem? (i := 9) rfl)) dh_X7_within ⟨Nat.le_of_ble_eq_true rfl, Nat.le_of_ble_eq_true rfl⟩), (hts _ (List.mem_of_getElem? (i := 8) rfl)), trivial⟩ hK hN (hZ.kept hS) rfl hl.1 rfl (Nat.le_of_ble_eq_true rfl) dX0_setNumber_99 ⟨Nat.le_of_ble_eq_true rfl, Nat.le_of_ble_eq_true rfl⟩ (fun r_2 hr_2 => ?_)
    rcases hr_2 with ⟨rfl, g_3⟩ | ⟨rfl, g_4, g_5⟩ | ⟨rfl, g_6, g_7⟩
    · exfalso; omega
    · exfalso; omega
    · refine lv_if_eq (tgt := 114) hx hb dX0_setNumber_102 (by decide) (fun c_8 => ?_) (fun c_8 => ?_)
      · exact absurd c_8 (by decide)
      · refine lv_aload_n hx hb dX0_setNumber_105 rfl (lv_at hl 0 rfl) ?_
        refine va_get (D := D) (ci := 0) (v := .ref jc) (C := RX0) (T := TX0) (N := 9) hx hb hts hi_X0_setNumber_0 hown hK hP 0 rfl rfl 2 (by decide) (hts (.fieldLink RX0 24 "TheLiningsInIt$Jacket" "costs" "[I") (List.mem_of_getElem? (i := 7) rfl)) (fun _ h9 => h9) rfl dX0_setNumber_106 ?_
        refine lv_iload_n hx hb dX0_setNumber_109 rfl (lv_at hl 1 rfl) ?_
        refine lv_iconst (v := 4) hx hb dX0_setNumber_110 (by decide) ?_
        refine lv_isub hx hb dX0_setNumber_111 ?_
        refine lv_topi (fun y_9 ey_9 => ?_)
        obtain rfl : y_9 = 0 := ey_9.trans (by decide)
        refine lv_iload_n hx hb dX0_setNumber_112 rfl (lv_at hl 2 rfl) ?_
        refine va_iast hx hb hK hP hD hS 2 0 rfl rfl (zf_in (by decide) (by decide)) dX0_setNumber_113 (fun H locs hP hD hS => ?_)
        have hpg_10 : zRg (upd fc (0 : Int32).toNatClampNeg v) (0) 99 := zRg_upd hp_fc (by omega) (by omega)
        obtain ⟨g_10, hg_10⟩ : ∃ g : Nat → Int32, g = upd fc (0 : Int32).toNatClampNeg v := ⟨_, rfl⟩
        rw [← hg_10] at hP hD hpg_10
        have h9R := zRe (ws' := [(j0, .inr (0, [.ref z0, .ref jp, .ref jc, .int cn, .int de, .int tr, .int se, .int hu, .int sd])), (z0, .inr (6, [.ref zl, .ref zs, .int sz, .int at_, .int gp])), (jc, .inl (cI, 3, .inl g_10))]) hP hD rfl
        clear hP hD
        obtain ⟨hP, hD⟩ := h9R
        exact W.vret hx hb hr (fun t ht hW => ⟨⟨(de, se, hu, at_, gp, g_10), rfl, ⟨(show 0 ≤ de.toInt ∧ de.toInt ≤ 24 from ⟨hy2, hy3⟩), (show 0 ≤ hu.toInt ∧ hu.toInt ≤ 9 from ⟨hy4, hy5⟩), (show 0 ≤ at_.toInt ∧ at_.toInt ≤ 40 from ⟨hy8, hy9⟩), (show 1 ≤ gp.toInt ∧ gp.toInt ≤ 9 from ⟨hy10, hy11⟩), hpg_10, (show de.toInt = (if (4 : Int32).toInt = 0 then v.toInt else de.toInt) ∧ se.toInt = (if (4 : Int32).toInt = 1 then v.toInt else se.toInt) ∧ hu.toInt = (if (4 : Int32).toInt = 2 then v.toInt else hu.toInt) ∧ gp.toInt = (if (4 : Int32).toInt = 3 then v.toInt else gp.toInt) ∧ at_.toInt = (if (4 : Int32).toInt = 7 then v.toInt else at_.toInt) from by (refine ⟨?_, ?_, ?_, ?_, ?_⟩ <;> ((repeat (first | rw [if_pos (by omega)] | rw [if_neg (by omega)])) <;> first | rfl | omega))), (show ((4 : Int32).toInt < 4 ∨ 6 < (4 : Int32).toInt → g_10 = fc) ∧ (4 ≤ (4 : Int32).toInt → (4 : Int32).toInt ≤ 6 → g_10 = upd fc ((4 : Int32).toInt - 4).toNat v) from by (exact ⟨fun h => by (exfalso; omega), fun h1 h2 => by (rw [hg_10]; congr 1 <;> decide)⟩)), trivial⟩, zRet ht hP hD [0, 1, 2] (by decide) rfl⟩, hS.F ht⟩) hS.2.2 dX0_setNumber_114
  · have kc5 : (5 : Int32).toInt = 5 := by decide
    refine lv_tableIn (tgt := 94) hx hb dX0_setNumber_1 (by decide) (by decide) rfl (by decide) ?_
    refine lv_iload_n hx hb dX0_setNumber_94 rfl (lv_at hl 1 rfl) ?_
    refine lv_iconst (v := 4) hx hb dX0_setNumber_95 (by decide) ?_
    refine lv_isub hx hb dX0_setNumber_96 ?_
    refine lv_topi (fun y_11 ey_11 => ?_)
    obtain rfl : y_11 = 1 := ey_11.trans (by decide)
    refine lv_iconst (v := 0) hx hb dX0_setNumber_97 (by decide) ?_
    refine lv_iconst (v := 2) hx hb dX0_setNumber_98 (by decide) ?_
    have kc1 : (1 : Int32).toInt = 1 := by decide
    have kc0 : (0 : Int32).toInt = 0 := by decide
    have kc2 : (2 : Int32).toInt = 2 := by decide
    refine zc_SN (As := [.int 1, .int 0, .int 2]) (rest := []) ⟨hx, hb, hml, hown, hts⟩ (c_within l D cI cJ cZ cP cS po (1) (0) (2) ) ⟨(va_cnB 3 hts gX0_setNumber_X7_within_n66 rfl rfl rfl (hN.1 (RX0, 66, yX7_within) (List.mem_of_getElem? (i := 6) rfl)) (hts _ (List.mem_of_getElem? (i := 9) rfl)) dh_X7_within ⟨Nat.le_of_ble_eq_true rfl, Nat.le_of_ble_eq_true rfl⟩), (hts _ (List.mem_of_getElem? (i := 8) rfl)), trivial⟩ hK hN (hZ.kept hS) rfl hl.1 rfl (Nat.le_of_ble_eq_true rfl) dX0_setNumber_99 ⟨Nat.le_of_ble_eq_true rfl, Nat.le_of_ble_eq_true rfl⟩ (fun r_12 hr_12 => ?_)
    rcases hr_12 with ⟨rfl, g_13⟩ | ⟨rfl, g_14, g_15⟩ | ⟨rfl, g_16, g_17⟩
    · exfalso; omega
    · exfalso; omega
    · refine lv_if_eq (tgt := 114) hx hb dX0_setNumber_102 (by decide) (fun c_18 => ?_) (fun c_18 => ?_)
      · exact absurd c_18 (by decide)
      · refine lv_aload_n hx hb dX0_setNumber_105 rfl (lv_at hl 0 rfl) ?_
        refine va_get (D := D) (ci := 0) (v := .ref jc) (C := RX0) (T := TX0) (N := 9) hx hb hts hi_X0_setNumber_0 hown hK hP 0 rfl rfl 2 (by decide) (hts (.fieldLink RX0 24 "TheLiningsInIt$Jacket" "costs" "[I") (List.mem_of_getElem? (i := 7) rfl)) (fun _ h9 => h9) rfl dX0_setNumber_106 ?_
        refine lv_iload_n hx hb dX0_setNumber_109 rfl (lv_at hl 1 rfl) ?_
        refine lv_iconst (v := 4) hx hb dX0_setNumber_110 (by decide) ?_
        refine lv_isub hx hb dX0_setNumber_111 ?_
        refine lv_topi (fun y_19 ey_19 => ?_)
        obtain rfl : y_19 = 1 := ey_19.trans (by decide)
        refine lv_iload_n hx hb dX0_setNumber_112 rfl (lv_at hl 2 rfl) ?_
        refine va_iast hx hb hK hP hD hS 2 0 rfl rfl (zf_in (by decide) (by decide)) dX0_setNumber_113 (fun H locs hP hD hS => ?_)
        have hpg_20 : zRg (upd fc (1 : Int32).toNatClampNeg v) (0) 99 := zRg_upd hp_fc (by omega) (by omega)
        obtain ⟨g_20, hg_20⟩ : ∃ g : Nat → Int32, g = upd fc (1 : Int32).toNatClampNeg v := ⟨_, rfl⟩
        rw [← hg_20] at hP hD hpg_20
        have h9R := zRe (ws' := [(j0, .inr (0, [.ref z0, .ref jp, .ref jc, .int cn, .int de, .int tr, .int se, .int hu, .int sd])), (z0, .inr (6, [.ref zl, .ref zs, .int sz, .int at_, .int gp])), (jc, .inl (cI, 3, .inl g_20))]) hP hD rfl
        clear hP hD
        obtain ⟨hP, hD⟩ := h9R
        exact W.vret hx hb hr (fun t ht hW => ⟨⟨(de, se, hu, at_, gp, g_20), rfl, ⟨(show 0 ≤ de.toInt ∧ de.toInt ≤ 24 from ⟨hy2, hy3⟩), (show 0 ≤ hu.toInt ∧ hu.toInt ≤ 9 from ⟨hy4, hy5⟩), (show 0 ≤ at_.toInt ∧ at_.toInt ≤ 40 from ⟨hy8, hy9⟩), (show 1 ≤ gp.toInt ∧ gp.toInt ≤ 9 from ⟨hy10, hy11⟩), hpg_20, (show de.toInt = (if (5 : Int32).toInt = 0 then v.toInt else de.toInt) ∧ se.toInt = (if (5 : Int32).toInt = 1 then v.toInt else se.toInt) ∧ hu.toInt = (if (5 : Int32).toInt = 2 then v.toInt else hu.toInt) ∧ gp.toInt = (if (5 : Int32).toInt = 3 then v.toInt else gp.toInt) ∧ at_.toInt = (if (5 : Int32).toInt = 7 then v.toInt else at_.toInt) from by (refine ⟨?_, ?_, ?_, ?_, ?_⟩ <;> ((repeat (first | rw [if_pos (by omega)] | rw [if_neg (by omega)])) <;> first | rfl | omega))), (show ((5 : Int32).toInt < 4 ∨ 6 < (5 : Int32).toInt → g_20 = fc) ∧ (4 ≤ (5 : Int32).toInt → (5 : Int32).toInt ≤ 6 → g_20 = upd fc ((5 : Int32).toInt - 4).toNat v) from by (exact ⟨fun h => by (exfalso; omega), fun h1 h2 => by (rw [hg_20]; congr 1 <;> decide)⟩)), trivial⟩, zRet ht hP hD [0, 1, 2] (by decide) rfl⟩, hS.F ht⟩) hS.2.2 dX0_setNumber_114
  · have kc6 : (6 : Int32).toInt = 6 := by decide
    refine lv_tableIn (tgt := 94) hx hb dX0_setNumber_1 (by decide) (by decide) rfl (by decide) ?_
    refine lv_iload_n hx hb dX0_setNumber_94 rfl (lv_at hl 1 rfl) ?_
    refine lv_iconst (v := 4) hx hb dX0_setNumber_95 (by decide) ?_
    refine lv_isub hx hb dX0_setNumber_96 ?_
    refine lv_topi (fun y_21 ey_21 => ?_)
    obtain rfl : y_21 = 2 := ey_21.trans (by decide)
    refine lv_iconst (v := 0) hx hb dX0_setNumber_97 (by decide) ?_
    refine lv_iconst (v := 2) hx hb dX0_setNumber_98 (by decide) ?_
    have kc2 : (2 : Int32).toInt = 2 := by decide
    have kc0 : (0 : Int32).toInt = 0 := by decide
    refine zc_SN (As := [.int 2, .int 0, .int 2]) (rest := []) ⟨hx, hb, hml, hown, hts⟩ (c_within l D cI cJ cZ cP cS po (2) (0) (2) ) ⟨(va_cnB 3 hts gX0_setNumber_X7_within_n66 rfl rfl rfl (hN.1 (RX0, 66, yX7_within) (List.mem_of_getElem? (i := 6) rfl)) (hts _ (List.mem_of_getElem? (i := 9) rfl)) dh_X7_within ⟨Nat.le_of_ble_eq_true rfl, Nat.le_of_ble_eq_true rfl⟩), (hts _ (List.mem_of_getElem? (i := 8) rfl)), trivial⟩ hK hN (hZ.kept hS) rfl hl.1 rfl (Nat.le_of_ble_eq_true rfl) dX0_setNumber_99 ⟨Nat.le_of_ble_eq_true rfl, Nat.le_of_ble_eq_true rfl⟩ (fun r_22 hr_22 => ?_)
    rcases hr_22 with ⟨rfl, g_23⟩ | ⟨rfl, g_24, g_25⟩ | ⟨rfl, g_26, g_27⟩
    · exfalso; omega
    · exfalso; omega
    · refine lv_if_eq (tgt := 114) hx hb dX0_setNumber_102 (by decide) (fun c_28 => ?_) (fun c_28 => ?_)
      · exact absurd c_28 (by decide)
      · refine lv_aload_n hx hb dX0_setNumber_105 rfl (lv_at hl 0 rfl) ?_
        refine va_get (D := D) (ci := 0) (v := .ref jc) (C := RX0) (T := TX0) (N := 9) hx hb hts hi_X0_setNumber_0 hown hK hP 0 rfl rfl 2 (by decide) (hts (.fieldLink RX0 24 "TheLiningsInIt$Jacket" "costs" "[I") (List.mem_of_getElem? (i := 7) rfl)) (fun _ h9 => h9) rfl dX0_setNumber_106 ?_
        refine lv_iload_n hx hb dX0_setNumber_109 rfl (lv_at hl 1 rfl) ?_
        refine lv_iconst (v := 4) hx hb dX0_setNumber_110 (by decide) ?_
        refine lv_isub hx hb dX0_setNumber_111 ?_
        refine lv_topi (fun y_29 ey_29 => ?_)
        obtain rfl : y_29 = 2 := ey_29.trans (by decide)
        refine lv_iload_n hx hb dX0_setNumber_112 rfl (lv_at hl 2 rfl) ?_
        refine va_iast hx hb hK hP hD hS 2 0 rfl rfl (zf_in (by decide) (by decide)) dX0_setNumber_113 (fun H locs hP hD hS => ?_)
        have hpg_30 : zRg (upd fc (2 : Int32).toNatClampNeg v) (0) 99 := zRg_upd hp_fc (by omega) (by omega)
        obtain ⟨g_30, hg_30⟩ : ∃ g : Nat → Int32, g = upd fc (2 : Int32).toNatClampNeg v := ⟨_, rfl⟩
        rw [← hg_30] at hP hD hpg_30
        have h9R := zRe (ws' := [(j0, .inr (0, [.ref z0, .ref jp, .ref jc, .int cn, .int de, .int tr, .int se, .int hu, .int sd])), (z0, .inr (6, [.ref zl, .ref zs, .int sz, .int at_, .int gp])), (jc, .inl (cI, 3, .inl g_30))]) hP hD rfl
        clear hP hD
        obtain ⟨hP, hD⟩ := h9R
        exact W.vret hx hb hr (fun t ht hW => ⟨⟨(de, se, hu, at_, gp, g_30), rfl, ⟨(show 0 ≤ de.toInt ∧ de.toInt ≤ 24 from ⟨hy2, hy3⟩), (show 0 ≤ hu.toInt ∧ hu.toInt ≤ 9 from ⟨hy4, hy5⟩), (show 0 ≤ at_.toInt ∧ at_.toInt ≤ 40 from ⟨hy8, hy9⟩), (show 1 ≤ gp.toInt ∧ gp.toInt ≤ 9 from ⟨hy10, hy11⟩), hpg_30, (show de.toInt = (if (6 : Int32).toInt = 0 then v.toInt else de.toInt) ∧ se.toInt = (if (6 : Int32).toInt = 1 then v.toInt else se.toInt) ∧ hu.toInt = (if (6 : Int32).toInt = 2 then v.toInt else hu.toInt) ∧ gp.toInt = (if (6 : Int32).toInt = 3 then v.toInt else gp.toInt) ∧ at_.toInt = (if (6 : Int32).toInt = 7 then v.toInt else at_.toInt) from by (refine ⟨?_, ?_, ?_, ?_, ?_⟩ <;> ((repeat (first | rw [if_pos (by omega)] | rw [if_neg (by omega)])) <;> first | rfl | omega))), (show ((6 : Int32).toInt < 4 ∨ 6 < (6 : Int32).toInt → g_30 = fc) ∧ (4 ≤ (6 : Int32).toInt → (6 : Int32).toInt ≤ 6 → g_30 = upd fc ((6 : Int32).toInt - 4).toNat v) from by (exact ⟨fun h => by (exfalso; omega), fun h1 h2 => by (rw [hg_30]; congr 1 <;> decide)⟩)), trivial⟩, zRet ht hP hD [0, 1, 2] (by decide) rfl⟩, hS.F ht⟩) hS.2.2 dX0_setNumber_114
  · have kc7 : (7 : Int32).toInt = 7 := by decide
    refine lv_tableIn (tgt := 83) hx hb dX0_setNumber_1 (by decide) (by decide) rfl (by decide) ?_
    refine lv_aload_n hx hb dX0_setNumber_83 rfl (lv_at hl 0 rfl) ?_
    refine va_get (D := D) (ci := 0) (v := .ref z0) (C := RX0) (T := TX0) (N := 9) hx hb hts hi_X0_setNumber_0 hown hK hP 0 rfl rfl 0 (by decide) (hts (.fieldLink RX0 12 "TheLiningsInIt$Jacket" "zip" "LTheLiningsInIt$Zip;") (List.mem_of_getElem? (i := 4) rfl)) (fun _ h9 => h9) rfl dX0_setNumber_84 ?_
    refine lv_iload_n hx hb dX0_setNumber_87 rfl (lv_at hl 2 rfl) ?_
    refine va_put (D := D) (ci := 6) (v := .int v) (ty := .int) (C := RX6) (T := TX6) (N := 5) hx hb hts hi_X0_setNumber_6 tyX6 tyX6_ok nmX6 hown hK hP hD hS 1 rfl rfl 3 (by decide) (hts (.fieldLink RX0 63 "TheLiningsInIt$Zip" "at" "I") (List.mem_of_getElem? (i := 6) rfl)) (fun _ h9 => h9) rfl (tyX6_ok 3 (Nat.le_of_ble_eq_true rfl)) rfl rfl (Nat.le_of_ble_eq_true rfl) dX0_setNumber_88 (fun H locs hP hD hS => ?_)
    have h9R := zRe (ws' := [(j0, .inr (0, [.ref z0, .ref jp, .ref jc, .int cn, .int de, .int tr, .int se, .int hu, .int sd])), (z0, .inr (6, [.ref zl, .ref zs, .int sz, .int v, .int gp])), (jc, .inl (cI, 3, .inl fc))]) hP hD rfl
    clear hP hD
    obtain ⟨hP, hD⟩ := h9R
    refine lv_goto (tgt := 114) hx hb dX0_setNumber_91 (by decide) ?_
    exact W.vret hx hb hr (fun t ht hW => ⟨⟨(de, se, hu, v, gp, fc), rfl, ⟨(show 0 ≤ de.toInt ∧ de.toInt ≤ 24 from ⟨hy2, hy3⟩), (show 0 ≤ hu.toInt ∧ hu.toInt ≤ 9 from ⟨hy4, hy5⟩), (show 0 ≤ v.toInt ∧ v.toInt ≤ 40 from ⟨by omega, by omega⟩), (show 1 ≤ gp.toInt ∧ gp.toInt ≤ 9 from ⟨hy10, hy11⟩), hp_fc, (show de.toInt = (if (7 : Int32).toInt = 0 then v.toInt else de.toInt) ∧ se.toInt = (if (7 : Int32).toInt = 1 then v.toInt else se.toInt) ∧ hu.toInt = (if (7 : Int32).toInt = 2 then v.toInt else hu.toInt) ∧ gp.toInt = (if (7 : Int32).toInt = 3 then v.toInt else gp.toInt) ∧ v.toInt = (if (7 : Int32).toInt = 7 then v.toInt else at_.toInt) from by (refine ⟨?_, ?_, ?_, ?_, ?_⟩ <;> ((repeat (first | rw [if_pos (by omega)] | rw [if_neg (by omega)])) <;> first | rfl | omega))), (show ((7 : Int32).toInt < 4 ∨ 6 < (7 : Int32).toInt → fc = fc) ∧ (4 ≤ (7 : Int32).toInt → (7 : Int32).toInt ≤ 6 → fc = upd fc ((7 : Int32).toInt - 4).toNat v) from by (exact ⟨fun _ => rfl, fun h1 h2 => by (exfalso; omega)⟩)), trivial⟩, zRet ht hP hD [0, 1, 2] (by decide) rfl⟩, hS.F ht⟩) hS.2.2 dX0_setNumber_114
set_option maxHeartbeats 4000000 in
set_option maxRecDepth 100000 in
theorem c_F_R_tellItem (l : Launch) (D : va_G) (cI cJ cZ cP cS : ClassId) (po : zPool) (rd ri rl : Nat) (rz rc rp rf rt ru : Int32) (fi : Nat → Int32) (j0 jp jc z0 zl zs : Nat) (cn de tr se hu sd : Int32) (sz at_ gp : Int32) (fl fs : Nat → Int32) (fp : Nat → Option Nat) (kf af tf : Nat → Int32) (fc : Nat → Int32) (slot : Int32) (hy0 : 0 ≤ rz.toInt) (hy1 : rz.toInt ≤ 160) (hy2 : 0 ≤ rc.toInt) (hy3 : rc.toInt ≤ 40) (hy4 : 0 ≤ rp.toInt) (hy5 : rp.toInt ≤ 160) (hy6 : rp.toInt ≤ rz.toInt) (hy7 : (-1) ≤ rf.toInt) (hy8 : rf.toInt ≤ 160) (hy9 : 0 ≤ rt.toInt) (hy10 : rt.toInt ≤ 40) (hy11 : 0 ≤ ru.toInt) (hy12 : ru.toInt ≤ 8) (hy13 : 0 ≤ cn.toInt) (hy14 : cn.toInt ≤ 8) (hy15 : 0 ≤ de.toInt) (hy16 : de.toInt ≤ 24) (hy17 : 0 ≤ hu.toInt) (hy18 : hu.toInt ≤ 9) (hy19 : 4 ≤ sz.toInt) (hy20 : sz.toInt ≤ 40) (hy21 : 0 ≤ at_.toInt) (hy22 : at_.toInt ≤ 40) (hy23 : 1 ≤ gp.toInt) (hy24 : gp.toInt ≤ 9) (hy25 : 0 ≤ slot.toInt) (hy26 : slot.toInt ≤ 128) (hit : zIt fi slot.toInt.toNat) (hp_fl : zRg fl (0) 1) (hp_fs : zRg fs (0) 9) (hp_fc : zRg fc (0) 99) (hpz : Nat) : Met l yX3_tellItem wsX3_tellItem ({ frames := 3, cells := 1, slots := 3, locals := 58 }) (va_Pc [.ref rd, .ref j0, .int slot] (zW D (zKT cI cJ cZ cP cS) po [(rd, .inr (3, [.ref ri, .ref rl, .int rz, .int rc, .int rp, .int rf, .int rt, .int ru])), (ri, .inl (cI, 132, .inl fi)), (j0, .inr (0, [.ref z0, .ref jp, .ref jc, .int cn, .int de, .int tr, .int se, .int hu, .int sd])), (z0, .inr (6, [.ref zl, .ref zs, .int sz, .int at_, .int gp])), (zl, .inl (cZ, 40, .inl fl)), (zs, .inl (cI, 40, .inl fs)), (jp, .inl (cP, 8, .inr (.inr (.inr (.inr fp))))), (jc, .inl (cI, 3, .inl fc))] hpz)) (va_Qv (fun (u : (Int32) × (Int32) × (Int32) × (Int32) × (Int32) × (Int32) × (Nat → Int32) × (Nat → Int32) × (Nat → Int32) × (Int32) × (Nat → Option Nat) × (Nat → Int32) × (Nat → Int32) × (Nat → Int32) × (List (Nat × Int32 × Int32 × Int32))) => (0 ≤ u.1.toInt ∧ u.1.toInt ≤ 24) ∧ (0 ≤ u.2.2.1.toInt ∧ u.2.2.1.toInt ≤ 9) ∧ (4 ≤ u.2.2.2.1.toInt ∧ u.2.2.2.1.toInt ≤ 40) ∧ (0 ≤ u.2.2.2.2.1.toInt ∧ u.2.2.2.2.1.toInt ≤ 40) ∧ (1 ≤ u.2.2.2.2.2.1.toInt ∧ u.2.2.2.2.2.1.toInt ≤ 9) ∧ zRg u.2.2.2.2.2.2.1 (0) 1 ∧ zRg u.2.2.2.2.2.2.2.1 (0) 9 ∧ zRg u.2.2.2.2.2.2.2.2.1 (0) 99 ∧ (0 ≤ u.2.2.2.2.2.2.2.2.2.1.toInt ∧ u.2.2.2.2.2.2.2.2.2.1.toInt ≤ 8) ∧ (∀ z ∈ u.2.2.2.2.2.2.2.2.2.2.2.2.2.2, zPr z.2.1 z.2.2.1 z.2.2.2) ∧ (zExt u.2.2.2.2.2.2.2.2.2.2.2.2.2.2 fp cn kf af tf u.2.2.2.2.2.2.2.2.2.2.1 u.2.2.2.2.2.2.2.2.2.1 u.2.2.2.2.2.2.2.2.2.2.2.1 u.2.2.2.2.2.2.2.2.2.2.2.2.1 u.2.2.2.2.2.2.2.2.2.2.2.2.2.1) ∧ (((fi slot.toInt.toNat).toInt = 3 → cn.toInt < 8 → u.2.2.2.2.2.2.2.2.2.1.toInt = cn.toInt + 1) ∧ ((fi slot.toInt.toNat).toInt ≠ 3 → u.2.2.2.2.2.2.2.2.2.1.toInt = cn.toInt) ∧ ((fi slot.toInt.toNat).toInt = 0 → u.2.2.2.1.toInt = (fi (slot.toInt.toNat + 1)).toInt) ∧ ((fi slot.toInt.toNat).toInt ≠ 0 → u.2.2.2.1.toInt = sz.toInt)) ∧ ((∀ j : Nat, j < 40 → u.2.2.2.2.2.2.1 j = zEl (zDS fi slot.toInt.toNat) fl j)) ∧ ((∀ j : Nat, j < 40 → u.2.2.2.2.2.2.2.1 j = zEs (zDS fi slot.toInt.toNat) fs j)) ∧ ((((fi slot.toInt.toNat).toInt = 3 → cn.toInt < 8) → u.2.2.2.2.2.2.2.2.2.2.2.1 = zEk (zDS fi slot.toInt.toNat) cn.toInt kf ∧ u.2.2.2.2.2.2.2.2.2.2.2.2.1 = zEa (zDS fi slot.toInt.toNat) cn.toInt af ∧ u.2.2.2.2.2.2.2.2.2.2.2.2.2.1 = zEt (zDS fi slot.toInt.toNat) cn.toInt tf)) ∧ (u.2.2.2.2.2.2.2.2.1 = zEc (zDS fi slot.toInt.toNat) fc) ∧ (u.1.toInt = zEnu 4 (zDS fi slot.toInt.toNat) de.toInt ∧ u.2.1.toInt = zEnu 5 (zDS fi slot.toInt.toNat) se.toInt ∧ u.2.2.1.toInt = zEnu 6 (zDS fi slot.toInt.toNat) hu.toInt ∧ u.2.2.2.2.2.1.toInt = zEnu 7 (zDS fi slot.toInt.toNat) gp.toInt ∧ u.2.2.2.2.1.toInt = zEat (zDS fi slot.toInt.toNat) at_.toInt) ∧ (True)) (zB D [(rd, .inr (3, [.ref ri, .ref rl, .int rz, .int rc, .int rp, .int rf, .int rt, .int ru])), (ri, .inl (cI, 132, .inl fi)), (j0, .inr (0, [.ref z0, .ref jp, .ref jc, .int cn, .int de, .int tr, .int se, .int hu, .int sd])), (z0, .inr (6, [.ref zl, .ref zs, .int sz, .int at_, .int gp])), (zl, .inl (cZ, 40, .inl fl)), (zs, .inl (cI, 40, .inl fs)), (jp, .inl (cP, 8, .inr (.inr (.inr (.inr fp))))), (jc, .inl (cI, 3, .inl fc))] hpz (fun (u : (Int32) × (Int32) × (Int32) × (Int32) × (Int32) × (Int32) × (Nat → Int32) × (Nat → Int32) × (Nat → Int32) × (Int32) × (Nat → Option Nat) × (Nat → Int32) × (Nat → Int32) × (Nat → Int32) × (List (Nat × Int32 × Int32 × Int32))) => ([(rd, .inr (3, [.ref ri, .ref rl, .int rz, .int rc, .int rp, .int rf, .int rt, .int ru])), (ri, .inl (cI, 132, .inl fi)), (j0, .inr (0, [.ref z0, .ref jp, .ref jc, .int u.2.2.2.2.2.2.2.2.2.1, .int u.1, .int tr, .int u.2.1, .int u.2.2.1, .int sd])), (z0, .inr (6, [.ref zl, .ref zs, .int u.2.2.2.1, .int u.2.2.2.2.1, .int u.2.2.2.2.2.1])), (zl, .inl (cZ, 40, .inl u.2.2.2.2.2.2.1)), (zs, .inl (cI, 40, .inl u.2.2.2.2.2.2.2.1)), (jp, .inl (cP, 8, .inr (.inr (.inr (.inr u.2.2.2.2.2.2.2.2.2.2.1))))), (jc, .inl (cI, 3, .inl u.2.2.2.2.2.2.2.2.1))] ++ u.2.2.2.2.2.2.2.2.2.2.2.2.2.2.map zPo))) (va_A [(rd, .inr (3, [.ref ri, .ref rl, .int rz, .int rc, .int rp, .int rf, .int rt, .int ru])), (ri, .inl (cI, 132, .inl fi)), (j0, .inr (0, [.ref z0, .ref jp, .ref jc, .int cn, .int de, .int tr, .int se, .int hu, .int sd])), (z0, .inr (6, [.ref zl, .ref zs, .int sz, .int at_, .int gp])), (zl, .inl (cZ, 40, .inl fl)), (zs, .inl (cI, 40, .inl fs)), (jp, .inl (cP, 8, .inr (.inr (.inr (.inr fp))))), (jc, .inl (cI, 3, .inl fc))] hpz)) 1 3 (va_A [(rd, .inr (3, [.ref ri, .ref rl, .int rz, .int rc, .int rp, .int rf, .int rt, .int ru])), (ri, .inl (cI, 132, .inl fi)), (j0, .inr (0, [.ref z0, .ref jp, .ref jc, .int cn, .int de, .int tr, .int se, .int hu, .int sd])), (z0, .inr (6, [.ref zl, .ref zs, .int sz, .int at_, .int gp])), (zl, .inl (cZ, 40, .inl fl)), (zs, .inl (cI, 40, .inl fs)), (jp, .inl (cP, 8, .inr (.inr (.inr (.inr fp))))), (jc, .inl (cI, 3, .inl fc))] hpz) := by
  refine Met.ofW (cc := cX3_tellItem) (maxL := 5) (ret := none) (by decide) rfl ?_
  intro p e s m args below meth c s₁ B hml hv
  obtain ⟨rfl, hsz, hP, hK, hD0, hN, hZ⟩ := hv
  have hx := B.exec
  have hb := B.bytes
  have hr := B.returns
  have hts := atoms_spec (ws := wsX3_tellItem) B.pre
  have hown : s.vm.findClass RX3 = some m.cls := findClass_of_methodNamed B.named
  have hlocks := B.notSynchronized
  subst hsz
  have hD := hD0.self (sz := s.heap.size)
  have hA := zA_of hD
  have hl := lv_entry ([.ref rd, .ref j0, .int slot]) (n := 5) (Nat.le_of_ble_eq_true rfl)
  rw [lg_entry_eq]
  generalize (lg_sl ([.ref rd, .ref j0, .int slot]) ++ List.replicate (5 - (lg_sl ([.ref rd, .ref j0, .int slot])).length) Slot.unset).toArray = ls at hl ⊢
  replace hl : lv_has ls 5 [(0, .ref rd), (1, .ref j0), (2, .int slot)] := hl
  refine zw_begin hP hD (fun H locs hP1 hS => ?_)
  clear hP
  have hP := hP1
  clear hP1
  refine lv_aload_n hx hb dX3_tellItem_0 rfl (lv_at hl 0 rfl) ?_
  refine va_get (D := D) (ci := 3) (v := .ref ri) (C := RX3) (T := TX3) (N := 8) hx hb hts hi_X3_tellItem_3 hown hK hP 0 rfl rfl 0 (by decide) (hts (.fieldLink RX3 11 "TheLiningsInIt$Reader" "items" "[I") (List.mem_of_getElem? (i := 1) rfl)) (fun _ h9 => h9) rfl dX3_tellItem_1 ?_
  refine lv_iload_n hx hb dX3_tellItem_4 rfl (lv_at hl 2 rfl) ?_
  refine lv_iconst (v := 1) hx hb dX3_tellItem_5 (by decide) ?_
  refine lv_iadd hx hb dX3_tellItem_6 ?_
  refine lv_topi (fun x_1 ex_1 => ?_)
  have qx_1 : x_1.toInt = slot.toInt + 1 := by rw [ex_1]; exact zf_add rfl (by decide) (by omega) (by omega)
  refine va_iald hx hb hK hP 1 0 rfl rfl (zf_in (by omega) (by omega)) dX3_tellItem_7 ?_
  refine lv_topi (fun x_2 ex_2 => ?_)
  refine lv_istore_n (lv' := [(3, .int x_2), (0, .ref rd), (1, .ref j0), (2, .int slot)]) hx hb dX3_tellItem_8 rfl hl (by decide) rfl (fun ls hl => ?_)
  refine lv_aload_n hx hb dX3_tellItem_9 rfl (lv_at hl 1 rfl) ?_
  refine va_get (D := D) (ci := 3) (v := .ref ri) (C := RX3) (T := TX3) (N := 8) hx hb hts hi_X3_tellItem_3 hown hK hP 0 rfl rfl 0 (by decide) (hts (.fieldLink RX3 11 "TheLiningsInIt$Reader" "items" "[I") (List.mem_of_getElem? (i := 1) rfl)) (fun _ h9 => h9) rfl dX3_tellItem_10 ?_
  refine lv_iload_n hx hb dX3_tellItem_13 rfl (lv_at hl 3 rfl) ?_
  refine lv_iconst (v := 2) hx hb dX3_tellItem_14 (by decide) ?_
  refine lv_iadd hx hb dX3_tellItem_15 ?_
  refine lv_topi (fun x_3 ex_3 => ?_)
  have qx_3 : x_3.toInt = slot.toInt + 2 := by rw [ex_3]; exact zf_add rfl (by decide) (by omega) (by omega)
  refine va_iald hx hb hK hP 1 0 rfl rfl (zf_in (by omega) (by omega)) dX3_tellItem_16 ?_
  refine lv_topi (fun x_4 ex_4 => ?_)
  refine lv_istore (lv' := [(4, .int x_4), (3, .int x_2), (0, .ref rd), (1, .ref j0), (2, .int slot)]) hx hb dX3_tellItem_17 hl (by decide) rfl (fun ls hl => ?_)
  refine lv_aload_n hx hb dX3_tellItem_19 rfl (lv_at hl 2 rfl) ?_
  refine va_get (D := D) (ci := 3) (v := .ref ri) (C := RX3) (T := TX3) (N := 8) hx hb hts hi_X3_tellItem_3 hown hK hP 0 rfl rfl 0 (by decide) (hts (.fieldLink RX3 11 "TheLiningsInIt$Reader" "items" "[I") (List.mem_of_getElem? (i := 1) rfl)) (fun _ h9 => h9) rfl dX3_tellItem_20 ?_
  refine lv_iload_n hx hb dX3_tellItem_23 rfl (lv_at hl 4 rfl) ?_
  refine va_iald hx hb hK hP 1 0 rfl rfl (zf_in (by omega) (by omega)) dX3_tellItem_24 ?_
  refine lv_topi (fun x_5 ex_5 => ?_)
  have e0 : x_5 = fi slot.toInt.toNat := ex_5
  have e1 : x_2 = fi (slot.toInt.toNat + 1) := by rw [ex_2]; congr 1; (show x_1.toInt.toNat = _; omega)
  have e2 : x_4 = fi (slot.toInt.toNat + 2) := by rw [ex_4]; congr 1; (show x_3.toInt.toNat = _; omega)
  have hz9 := hit
  unfold zIt at hz9
  rw [← e0, ← e1, ← e2] at hz9
  unfold zItv at hz9
  have hsp : x_5 = 0 ∨ x_5 = 1 ∨ x_5 = 2 ∨ x_5 = 3 ∨ x_5 = 4 ∨ x_5 = 5 ∨ x_5 = 6 ∨ x_5 = 7 ∨ x_5 = 8 ∨ x_5 = 9 := by
    rcases (show x_5.toInt = 0 ∨ x_5.toInt = 1 ∨ x_5.toInt = 2 ∨ x_5.toInt = 3 ∨ x_5.toInt = 4 ∨ x_5.toInt = 5 ∨ x_5.toInt = 6 ∨ x_5.toInt = 7 ∨ x_5.toInt = 8 ∨ x_5.toInt = 9 by omega) with h9 | h9 | h9 | h9 | h9 | h9 | h9 | h9 | h9 | h9
    · refine Or.inl ?_; exact zf_val h9 (by decide)
    · refine Or.inr (Or.inl ?_); exact zf_val h9 (by decide)
    · refine Or.inr (Or.inr (Or.inl ?_)); exact zf_val h9 (by decide)
    · refine Or.inr (Or.inr (Or.inr (Or.inl ?_))); exact zf_val h9 (by decide)
    · refine Or.inr (Or.inr (Or.inr (Or.inr (Or.inl ?_)))); exact zf_val h9 (by decide)
    · refine Or.inr (Or.inr (Or.inr (Or.inr (Or.inr (Or.inl ?_))))); exact zf_val h9 (by decide)
    · refine Or.inr (Or.inr (Or.inr (Or.inr (Or.inr (Or.inr (Or.inl ?_)))))); exact zf_val h9 (by decide)
    · refine Or.inr (Or.inr (Or.inr (Or.inr (Or.inr (Or.inr (Or.inr (Or.inl ?_))))))); exact zf_val h9 (by decide)
    · refine Or.inr (Or.inr (Or.inr (Or.inr (Or.inr (Or.inr (Or.inr (Or.inr (Or.inl ?_)))))))); exact zf_val h9 (by decide)
    · refine Or.inr (Or.inr (Or.inr (Or.inr (Or.inr (Or.inr (Or.inr (Or.inr (Or.inr (?_))))))))); exact zf_val h9 (by decide)
  rcases hsp with rfl | rfl | rfl | rfl | rfl | rfl | rfl | rfl | rfl | rfl
  · have kc0 : (0 : Int32).toInt = 0 := by decide
    refine lv_tableIn (tgt := 80) hx hb dX3_tellItem_25 (by decide) (by decide) rfl (by decide) ?_
    refine lv_aload_n hx hb dX3_tellItem_80 rfl (lv_at hl 3 rfl) ?_
    refine va_get (D := D) (ci := 0) (v := .ref z0) (C := RX0) (T := TX0) (N := 9) hx hb hts hi_X3_tellItem_0 hown hK hP 2 rfl rfl 0 (by decide) (hts (.fieldLink RX3 136 "TheLiningsInIt$Jacket" "zip" "LTheLiningsInIt$Zip;") (List.mem_of_getElem? (i := 2) rfl)) (fun _ h9 => h9) rfl dX3_tellItem_81 ?_
    refine lv_iload_n hx hb dX3_tellItem_84 rfl (lv_at hl 1 rfl) ?_
    skip
    refine zw_Vv (As := [.int x_2]) (rest := []) (wr := [(rd, .inr (3, [.ref ri, .ref rl, .int rz, .int rc, .int rp, .int rf, .int rt, .int ru])), (ri, .inl (cI, 132, .inl fi)), (j0, .inr (0, [.ref z0, .ref jp, .ref jc, .int cn, .int de, .int tr, .int se, .int hu, .int sd])), (jp, .inl (cP, 8, .inr (.inr (.inr (.inr fp))))), (jc, .inl (cI, 3, .inl fc))]) ⟨hx, hb, hml, hown, hts⟩ (c_F_Zip_renew l D cI cJ cZ cP cS po z0 zl zs (sz) (at_) (gp) fl fs (x_2) hy19 hy20 hy21 hy22 hy23 hy24 (by omega) (by omega) hp_fl hp_fs H.size) (cwV 1 hts gX3_tellItem_X6_renew rfl rfl rfl ⟨rfl, dh_X6_renew⟩ ⟨Nat.le_of_ble_eq_true rfl, Nat.le_of_ble_eq_true rfl⟩) hK hN (hZ.kept hS) hP hD hS hA [3, 4, 5] [0, 1, 2, 6, 7] rfl rfl (by decide) (by decide) (by decide) (va_recv (q := (RX6, TX6, 5)) hK hP (ci := 6) (q0 := 3) rfl rfl) rfl hl.1 rfl (Nat.le_of_ble_eq_true rfl) dX3_tellItem_85 ⟨Nat.le_of_ble_eq_true rfl, Nat.le_of_ble_eq_true rfl⟩ (fun u_7 H locs hr_6 hP hD hS => ?_)
    obtain ⟨q_8, q_9, q_10, q_11⟩ := u_7
    try dsimp only at hr_6
    obtain ⟨hbq_8, hbq_9, hpq_10, hpq_11, hsr_6_0, hsr_6_1, hsr_6_2, hsr_6_3, hr_6⟩ := hr_6
    have h9R := zRe (ws' := [(rd, .inr (3, [.ref ri, .ref rl, .int rz, .int rc, .int rp, .int rf, .int rt, .int ru])), (ri, .inl (cI, 132, .inl fi)), (j0, .inr (0, [.ref z0, .ref jp, .ref jc, .int cn, .int de, .int tr, .int se, .int hu, .int sd])), (jp, .inl (cP, 8, .inr (.inr (.inr (.inr fp))))), (jc, .inl (cI, 3, .inl fc)), (z0, .inr (6, [.ref zl, .ref zs, .int q_8, .int q_9, .int gp])), (zl, .inl (cZ, 40, .inl q_10)), (zs, .inl (cI, 40, .inl q_11))]) hP hD rfl
    clear hP hD
    obtain ⟨hP, hD⟩ := h9R
    refine lv_goto (tgt := 172) hx hb dX3_tellItem_88 (by decide) ?_
    refine W.widen (k := 1) (n := 3) (Nat.le_of_ble_eq_true rfl) (Nat.le_of_ble_eq_true rfl) ?_
    exact W.vret hx hb hr (fun t ht hW => ⟨⟨(de, se, hu, q_8, q_9, gp, q_10, q_11, fc, cn, fp, kf, af, tf, []), rfl, ⟨(show 0 ≤ de.toInt ∧ de.toInt ≤ 24 from ⟨hy15, hy16⟩), (show 0 ≤ hu.toInt ∧ hu.toInt ≤ 9 from ⟨hy17, hy18⟩), (show 4 ≤ q_8.toInt ∧ q_8.toInt ≤ 40 from hbq_8), (show 0 ≤ q_9.toInt ∧ q_9.toInt ≤ 40 from hbq_9), (show 1 ≤ gp.toInt ∧ gp.toInt ≤ 9 from ⟨hy23, hy24⟩), hpq_10, hpq_11, hp_fc, (show 0 ≤ cn.toInt ∧ cn.toInt ≤ 8 from ⟨hy13, hy14⟩), (by intro z hz; simp at hz), (show zExt [] fp cn kf af tf fp cn kf af tf from by first | exact zExt.refl | assumption), (show ((fi slot.toInt.toNat).toInt = 3 → cn.toInt < 8 → cn.toInt = cn.toInt + 1) ∧ ((fi slot.toInt.toNat).toInt ≠ 3 → cn.toInt = cn.toInt) ∧ ((fi slot.toInt.toNat).toInt = 0 → q_8.toInt = (fi (slot.toInt.toNat + 1)).toInt) ∧ ((fi slot.toInt.toNat).toInt ≠ 0 → q_8.toInt = sz.toInt) from by (rw [← e0, ← e1]; refine ⟨?_, ?_, ?_, ?_⟩ <;> (intros; first | rfl | omega | (exfalso; omega) | (simp_all; done)))), (show (∀ j : Nat, j < 40 → q_10 j = zEl (zDS fi slot.toInt.toNat) fl j) from by (intro j hj; unfold zEl zDS; dsimp only; rw [← e0]; rw [if_pos (by omega)]; exact hsr_6_1 j hj)), (show (∀ j : Nat, j < 40 → q_11 j = zEs (zDS fi slot.toInt.toNat) fs j) from by (intro j hj; unfold zEs zDS; dsimp only; rw [← e0]; rw [if_pos (by omega)]; exact hsr_6_2 j hj)), (show (((fi slot.toInt.toNat).toInt = 3 → cn.toInt < 8) → kf = zEk (zDS fi slot.toInt.toNat) cn.toInt kf ∧ af = zEa (zDS fi slot.toInt.toNat) cn.toInt af ∧ tf = zEt (zDS fi slot.toInt.toNat) cn.toInt tf) from by (intro _; unfold zEk zEa zEt zDS; dsimp only; rw [← e0, if_neg (by omega), if_neg (by omega), if_neg (by omega)]; exact ⟨rfl, rfl, rfl⟩)), (show fc = zEc (zDS fi slot.toInt.toNat) fc from by (unfold zEc zDS; dsimp only; rw [← e0, if_neg (by omega)])), (show de.toInt = zEnu 4 (zDS fi slot.toInt.toNat) de.toInt ∧ se.toInt = zEnu 5 (zDS fi slot.toInt.toNat) se.toInt ∧ hu.toInt = zEnu 6 (zDS fi slot.toInt.toNat) hu.toInt ∧ gp.toInt = zEnu 7 (zDS fi slot.toInt.toNat) gp.toInt ∧ q_9.toInt = zEat (zDS fi slot.toInt.toNat) at_.toInt from by (have z := hsr_6_3; unfold zEnu zEat zDS; dsimp only; rw [← e0, ← e1]; refine ⟨?_, ?_, ?_, ?_, ?_⟩ <;> ((repeat (first | rw [if_pos (by omega)] | rw [if_neg (by omega)])) <;> first | rfl | omega))), trivial⟩, zRet ht hP hD [0, 1, 2, 5, 6, 7, 3, 4] (by decide) rfl⟩, hS.F ht⟩) hS.2.2 dX3_tellItem_172
  · have kc1 : (1 : Int32).toInt = 1 := by decide
    refine lv_tableIn (tgt := 91) hx hb dX3_tellItem_25 (by decide) (by decide) rfl (by decide) ?_
    refine lv_aload_n hx hb dX3_tellItem_91 rfl (lv_at hl 3 rfl) ?_
    refine va_get (D := D) (ci := 0) (v := .ref z0) (C := RX0) (T := TX0) (N := 9) hx hb hts hi_X3_tellItem_0 hown hK hP 2 rfl rfl 0 (by decide) (hts (.fieldLink RX3 136 "TheLiningsInIt$Jacket" "zip" "LTheLiningsInIt$Zip;") (List.mem_of_getElem? (i := 2) rfl)) (fun _ h9 => h9) rfl dX3_tellItem_92 ?_
    refine va_get (D := D) (ci := 6) (v := .ref zl) (C := RX6) (T := TX6) (N := 5) hx hb hts hi_X3_tellItem_6 hown hK hP 3 rfl rfl 0 (by decide) (hts (.fieldLink RX3 147 "TheLiningsInIt$Zip" "lacking" "[Z") (List.mem_of_getElem? (i := 3) rfl)) (fun _ h9 => h9) rfl dX3_tellItem_95 ?_
    refine lv_iload_n hx hb dX3_tellItem_98 rfl (lv_at hl 1 rfl) ?_
    refine lv_iconst (v := 1) hx hb dX3_tellItem_99 (by decide) ?_
    refine va_zast hx hb hK hP hD hS 4 2 rfl rfl (zf_in (by omega) (by omega)) dX3_tellItem_100 (fun H locs hP hD hS => ?_)
    rw [zNarZ (by decide) (by decide)] at hP hD
    have hpg_12 : zRg (upd fl x_2.toNatClampNeg 1) (0) 1 := zRg_upd hp_fl (by decide) (by decide)
    obtain ⟨g_12, hg_12⟩ : ∃ g : Nat → Int32, g = upd fl x_2.toNatClampNeg 1 := ⟨_, rfl⟩
    rw [← hg_12] at hP hD hpg_12
    have h9R := zRe (ws' := [(rd, .inr (3, [.ref ri, .ref rl, .int rz, .int rc, .int rp, .int rf, .int rt, .int ru])), (ri, .inl (cI, 132, .inl fi)), (j0, .inr (0, [.ref z0, .ref jp, .ref jc, .int cn, .int de, .int tr, .int se, .int hu, .int sd])), (z0, .inr (6, [.ref zl, .ref zs, .int sz, .int at_, .int gp])), (zl, .inl (cZ, 40, .inl g_12)), (zs, .inl (cI, 40, .inl fs)), (jp, .inl (cP, 8, .inr (.inr (.inr (.inr fp))))), (jc, .inl (cI, 3, .inl fc))]) hP hD rfl
    clear hP hD
    obtain ⟨hP, hD⟩ := h9R
    refine lv_goto (tgt := 172) hx hb dX3_tellItem_101 (by decide) ?_
    refine W.widen (k := 1) (n := 3) (Nat.le_of_ble_eq_true rfl) (Nat.le_of_ble_eq_true rfl) ?_
    exact W.vret hx hb hr (fun t ht hW => ⟨⟨(de, se, hu, sz, at_, gp, g_12, fs, fc, cn, fp, kf, af, tf, []), rfl, ⟨(show 0 ≤ de.toInt ∧ de.toInt ≤ 24 from ⟨hy15, hy16⟩), (show 0 ≤ hu.toInt ∧ hu.toInt ≤ 9 from ⟨hy17, hy18⟩), (show 4 ≤ sz.toInt ∧ sz.toInt ≤ 40 from ⟨hy19, hy20⟩), (show 0 ≤ at_.toInt ∧ at_.toInt ≤ 40 from ⟨hy21, hy22⟩), (show 1 ≤ gp.toInt ∧ gp.toInt ≤ 9 from ⟨hy23, hy24⟩), hpg_12, hp_fs, hp_fc, (show 0 ≤ cn.toInt ∧ cn.toInt ≤ 8 from ⟨hy13, hy14⟩), (by intro z hz; simp at hz), (show zExt [] fp cn kf af tf fp cn kf af tf from by first | exact zExt.refl | assumption), (show ((fi slot.toInt.toNat).toInt = 3 → cn.toInt < 8 → cn.toInt = cn.toInt + 1) ∧ ((fi slot.toInt.toNat).toInt ≠ 3 → cn.toInt = cn.toInt) ∧ ((fi slot.toInt.toNat).toInt = 0 → sz.toInt = (fi (slot.toInt.toNat + 1)).toInt) ∧ ((fi slot.toInt.toNat).toInt ≠ 0 → sz.toInt = sz.toInt) from by (rw [← e0, ← e1]; refine ⟨?_, ?_, ?_, ?_⟩ <;> (intros; first | rfl | omega | (exfalso; omega) | (simp_all; done)))), (show (∀ j : Nat, j < 40 → g_12 j = zEl (zDS fi slot.toInt.toNat) fl j) from by (intro j hj; unfold zEl zDS; dsimp only; rw [← e0]; rw [if_neg (by omega), if_pos (by omega), ← e1, hg_12]; rfl)), (show (∀ j : Nat, j < 40 → fs j = zEs (zDS fi slot.toInt.toNat) fs j) from by (intro j hj; unfold zEs zDS; dsimp only; rw [← e0]; rw [if_neg (by omega), if_neg (by omega)])), (show (((fi slot.toInt.toNat).toInt = 3 → cn.toInt < 8) → kf = zEk (zDS fi slot.toInt.toNat) cn.toInt kf ∧ af = zEa (zDS fi slot.toInt.toNat) cn.toInt af ∧ tf = zEt (zDS fi slot.toInt.toNat) cn.toInt tf) from by (intro _; unfold zEk zEa zEt zDS; dsimp only; rw [← e0, if_neg (by omega), if_neg (by omega), if_neg (by omega)]; exact ⟨rfl, rfl, rfl⟩)), (show fc = zEc (zDS fi slot.toInt.toNat) fc from by (unfold zEc zDS; dsimp only; rw [← e0, if_neg (by omega)])), (show de.toInt = zEnu 4 (zDS fi slot.toInt.toNat) de.toInt ∧ se.toInt = zEnu 5 (zDS fi slot.toInt.toNat) se.toInt ∧ hu.toInt = zEnu 6 (zDS fi slot.toInt.toNat) hu.toInt ∧ gp.toInt = zEnu 7 (zDS fi slot.toInt.toNat) gp.toInt ∧ at_.toInt = zEat (zDS fi slot.toInt.toNat) at_.toInt from by (unfold zEnu zEat zDS; dsimp only; rw [← e0, ← e1]; refine ⟨?_, ?_, ?_, ?_, ?_⟩ <;> ((repeat (first | rw [if_pos (by omega)] | rw [if_neg (by omega)])) <;> first | rfl | omega))), trivial⟩, zRet ht hP hD [0, 1, 2, 3, 4, 5, 6, 7] (by decide) rfl⟩, hS.F ht⟩) hS.2.2 dX3_tellItem_172
  · have kc2 : (2 : Int32).toInt = 2 := by decide
    refine lv_tableIn (tgt := 104) hx hb dX3_tellItem_25 (by decide) (by decide) rfl (by decide) ?_
    refine lv_aload_n hx hb dX3_tellItem_104 rfl (lv_at hl 3 rfl) ?_
    refine va_get (D := D) (ci := 0) (v := .ref z0) (C := RX0) (T := TX0) (N := 9) hx hb hts hi_X3_tellItem_0 hown hK hP 2 rfl rfl 0 (by decide) (hts (.fieldLink RX3 136 "TheLiningsInIt$Jacket" "zip" "LTheLiningsInIt$Zip;") (List.mem_of_getElem? (i := 2) rfl)) (fun _ h9 => h9) rfl dX3_tellItem_105 ?_
    refine va_get (D := D) (ci := 6) (v := .ref zs) (C := RX6) (T := TX6) (N := 5) hx hb hts hi_X3_tellItem_6 hown hK hP 3 rfl rfl 1 (by decide) (hts (.fieldLink RX3 151 "TheLiningsInIt$Zip" "slacks" "[I") (List.mem_of_getElem? (i := 4) rfl)) (fun _ h9 => h9) rfl dX3_tellItem_108 ?_
    refine lv_iload_n hx hb dX3_tellItem_111 rfl (lv_at hl 1 rfl) ?_
    refine lv_iload hx hb dX3_tellItem_112 (lv_at hl 0 rfl) ?_
    refine va_iast hx hb hK hP hD hS 5 0 rfl rfl (zf_in (by omega) (by omega)) dX3_tellItem_114 (fun H locs hP hD hS => ?_)
    have hpg_13 : zRg (upd fs x_2.toNatClampNeg x_4) (0) 9 := zRg_upd hp_fs (by omega) (by omega)
    obtain ⟨g_13, hg_13⟩ : ∃ g : Nat → Int32, g = upd fs x_2.toNatClampNeg x_4 := ⟨_, rfl⟩
    rw [← hg_13] at hP hD hpg_13
    have h9R := zRe (ws' := [(rd, .inr (3, [.ref ri, .ref rl, .int rz, .int rc, .int rp, .int rf, .int rt, .int ru])), (ri, .inl (cI, 132, .inl fi)), (j0, .inr (0, [.ref z0, .ref jp, .ref jc, .int cn, .int de, .int tr, .int se, .int hu, .int sd])), (z0, .inr (6, [.ref zl, .ref zs, .int sz, .int at_, .int gp])), (zl, .inl (cZ, 40, .inl fl)), (zs, .inl (cI, 40, .inl g_13)), (jp, .inl (cP, 8, .inr (.inr (.inr (.inr fp))))), (jc, .inl (cI, 3, .inl fc))]) hP hD rfl
    clear hP hD
    obtain ⟨hP, hD⟩ := h9R
    refine lv_goto (tgt := 172) hx hb dX3_tellItem_115 (by decide) ?_
    refine W.widen (k := 1) (n := 3) (Nat.le_of_ble_eq_true rfl) (Nat.le_of_ble_eq_true rfl) ?_
    exact W.vret hx hb hr (fun t ht hW => ⟨⟨(de, se, hu, sz, at_, gp, fl, g_13, fc, cn, fp, kf, af, tf, []), rfl, ⟨(show 0 ≤ de.toInt ∧ de.toInt ≤ 24 from ⟨hy15, hy16⟩), (show 0 ≤ hu.toInt ∧ hu.toInt ≤ 9 from ⟨hy17, hy18⟩), (show 4 ≤ sz.toInt ∧ sz.toInt ≤ 40 from ⟨hy19, hy20⟩), (show 0 ≤ at_.toInt ∧ at_.toInt ≤ 40 from ⟨hy21, hy22⟩), (show 1 ≤ gp.toInt ∧ gp.toInt ≤ 9 from ⟨hy23, hy24⟩), hp_fl, hpg_13, hp_fc, (show 0 ≤ cn.toInt ∧ cn.toInt ≤ 8 from ⟨hy13, hy14⟩), (by intro z hz; simp at hz), (show zExt [] fp cn kf af tf fp cn kf af tf from by first | exact zExt.refl | assumption), (show ((fi slot.toInt.toNat).toInt = 3 → cn.toInt < 8 → cn.toInt = cn.toInt + 1) ∧ ((fi slot.toInt.toNat).toInt ≠ 3 → cn.toInt = cn.toInt) ∧ ((fi slot.toInt.toNat).toInt = 0 → sz.toInt = (fi (slot.toInt.toNat + 1)).toInt) ∧ ((fi slot.toInt.toNat).toInt ≠ 0 → sz.toInt = sz.toInt) from by (rw [← e0, ← e1]; refine ⟨?_, ?_, ?_, ?_⟩ <;> (intros; first | rfl | omega | (exfalso; omega) | (simp_all; done)))), (show (∀ j : Nat, j < 40 → fl j = zEl (zDS fi slot.toInt.toNat) fl j) from by (intro j hj; unfold zEl zDS; dsimp only; rw [← e0]; rw [if_neg (by omega), if_neg (by omega)])), (show (∀ j : Nat, j < 40 → g_13 j = zEs (zDS fi slot.toInt.toNat) fs j) from by (intro j hj; unfold zEs zDS; dsimp only; rw [← e0]; rw [if_neg (by omega), if_pos (by omega), ← e1, ← e2, Int32.ofInt_toInt, hg_13]; rfl)), (show (((fi slot.toInt.toNat).toInt = 3 → cn.toInt < 8) → kf = zEk (zDS fi slot.toInt.toNat) cn.toInt kf ∧ af = zEa (zDS fi slot.toInt.toNat) cn.toInt af ∧ tf = zEt (zDS fi slot.toInt.toNat) cn.toInt tf) from by (intro _; unfold zEk zEa zEt zDS; dsimp only; rw [← e0, if_neg (by omega), if_neg (by omega), if_neg (by omega)]; exact ⟨rfl, rfl, rfl⟩)), (show fc = zEc (zDS fi slot.toInt.toNat) fc from by (unfold zEc zDS; dsimp only; rw [← e0, if_neg (by omega)])), (show de.toInt = zEnu 4 (zDS fi slot.toInt.toNat) de.toInt ∧ se.toInt = zEnu 5 (zDS fi slot.toInt.toNat) se.toInt ∧ hu.toInt = zEnu 6 (zDS fi slot.toInt.toNat) hu.toInt ∧ gp.toInt = zEnu 7 (zDS fi slot.toInt.toNat) gp.toInt ∧ at_.toInt = zEat (zDS fi slot.toInt.toNat) at_.toInt from by (unfold zEnu zEat zDS; dsimp only; rw [← e0, ← e1]; refine ⟨?_, ?_, ?_, ?_, ?_⟩ <;> ((repeat (first | rw [if_pos (by omega)] | rw [if_neg (by omega)])) <;> first | rfl | omega))), trivial⟩, zRet ht hP hD [0, 1, 2, 3, 4, 5, 6, 7] (by decide) rfl⟩, hS.F ht⟩) hS.2.2 dX3_tellItem_172
  · have kc3 : (3 : Int32).toInt = 3 := by decide
    refine lv_tableIn (tgt := 118) hx hb dX3_tellItem_25 (by decide) (by decide) rfl (by decide) ?_
    refine lv_aload_n hx hb dX3_tellItem_118 rfl (lv_at hl 3 rfl) ?_
    refine lv_iload_n hx hb dX3_tellItem_119 rfl (lv_at hl 1 rfl) ?_
    refine lv_iload hx hb dX3_tellItem_120 (lv_at hl 0 rfl) ?_
    refine lv_aload_n hx hb dX3_tellItem_122 rfl (lv_at hl 2 rfl) ?_
    refine va_get (D := D) (ci := 3) (v := .ref ri) (C := RX3) (T := TX3) (N := 8) hx hb hts hi_X3_tellItem_3 hown hK hP 0 rfl rfl 0 (by decide) (hts (.fieldLink RX3 11 "TheLiningsInIt$Reader" "items" "[I") (List.mem_of_getElem? (i := 1) rfl)) (fun _ h9 => h9) rfl dX3_tellItem_123 ?_
    refine lv_iload_n hx hb dX3_tellItem_126 rfl (lv_at hl 4 rfl) ?_
    refine lv_iconst (v := 3) hx hb dX3_tellItem_127 (by decide) ?_
    refine lv_iadd hx hb dX3_tellItem_128 ?_
    refine lv_topi (fun x_14 ex_14 => ?_)
    have qx_14 : x_14.toInt = slot.toInt + 3 := by rw [ex_14]; exact zf_add rfl (by decide) (by omega) (by omega)
    refine va_iald hx hb hK hP 1 0 rfl rfl (zf_in (by omega) (by omega)) dX3_tellItem_129 ?_
    refine lv_topi (fun x_15 ex_15 => ?_)
    have e3 : x_15 = fi (slot.toInt.toNat + 3) := by rw [ex_15]; congr 1; (show x_14.toInt.toNat = _; omega)
    rw [← e3] at hz9
    skip
    refine zw_V (As := [.int x_2, .int x_4, .int x_15]) (rest := []) (wr := [(rd, .inr (3, [.ref ri, .ref rl, .int rz, .int rc, .int rp, .int rf, .int rt, .int ru])), (ri, .inl (cI, 132, .inl fi)), (z0, .inr (6, [.ref zl, .ref zs, .int sz, .int at_, .int gp])), (zl, .inl (cZ, 40, .inl fl)), (zs, .inl (cI, 40, .inl fs)), (jc, .inl (cI, 3, .inl fc))]) ⟨hx, hb, hml, hown, hts⟩ (c_F_J_addPull l D cI cJ cZ cP cS po j0 jp jc z0 0 0 (cn) (de) (tr) (se) (hu) (sd) fp kf af tf (x_2) (x_4) (x_15) hy13 hy14 hy15 hy16 hy17 hy18 (by omega) (by omega) (by omega) (by omega) (by omega) (by omega) H.size) (cwV 3 hts gX3_tellItem_X0_addPull rfl rfl rfl ⟨rfl, dh_X0_addPull⟩ ⟨Nat.le_of_ble_eq_true rfl, Nat.le_of_ble_eq_true rfl⟩) hK hN (hZ.kept hS) hP hD hS hA [2, 6] [0, 1, 3, 4, 5, 7] rfl rfl (by decide) (by decide) (by decide) (va_recv (q := (RX0, TX0, 9)) hK hP (ci := 0) (q0 := 2) rfl rfl) rfl hl.1 rfl (Nat.le_of_ble_eq_true rfl) dX3_tellItem_130 ⟨Nat.le_of_ble_eq_true rfl, Nat.le_of_ble_eq_true rfl⟩ (fun r_16 u_17 H locs hr_16 hP hD hS => ?_)
    obtain ⟨q_18, q_19, q_20, q_21, q_22, q_23⟩ := u_17
    try dsimp only at hr_16
    obtain ⟨hbq_18, hnpq_23, hsr_16_0, hsr_16_1, hsr_16_2, hr_16⟩ := hr_16
    have h9R := zRe (ws' := ([(rd, .inr (3, [.ref ri, .ref rl, .int rz, .int rc, .int rp, .int rf, .int rt, .int ru])), (ri, .inl (cI, 132, .inl fi)), (z0, .inr (6, [.ref zl, .ref zs, .int sz, .int at_, .int gp])), (zl, .inl (cZ, 40, .inl fl)), (zs, .inl (cI, 40, .inl fs)), (jc, .inl (cI, 3, .inl fc)), (j0, .inr (0, [.ref z0, .ref jp, .ref jc, .int q_18, .int de, .int tr, .int se, .int hu, .int sd])), (jp, .inl (cP, 8, .inr (.inr (.inr (.inr q_19)))))] ++ (q_23.map zPo))) hP hD rfl
    clear hP hD
    obtain ⟨hP, hD⟩ := h9R
    refine W.widen (k := 1) (n := 3) (Nat.le_of_ble_eq_true rfl) (Nat.le_of_ble_eq_true rfl) ?_
    refine lv_pop hx hb dX3_tellItem_133 rfl ?_
    refine lv_goto (tgt := 172) hx hb dX3_tellItem_134 (by decide) ?_
    refine W.widen (k := 1) (n := 3) (Nat.le_of_ble_eq_true rfl) (Nat.le_of_ble_eq_true rfl) ?_
    exact W.vret hx hb hr (fun t ht hW => ⟨⟨(de, se, hu, sz, at_, gp, fl, fs, fc, q_18, q_19, q_20, q_21, q_22, q_23), rfl, ⟨(show 0 ≤ de.toInt ∧ de.toInt ≤ 24 from ⟨hy15, hy16⟩), (show 0 ≤ hu.toInt ∧ hu.toInt ≤ 9 from ⟨hy17, hy18⟩), (show 4 ≤ sz.toInt ∧ sz.toInt ≤ 40 from ⟨hy19, hy20⟩), (show 0 ≤ at_.toInt ∧ at_.toInt ≤ 40 from ⟨hy21, hy22⟩), (show 1 ≤ gp.toInt ∧ gp.toInt ≤ 9 from ⟨hy23, hy24⟩), hp_fl, hp_fs, hp_fc, (show 0 ≤ q_18.toInt ∧ q_18.toInt ≤ 8 from hbq_18), hnpq_23, (show zExt q_23 fp cn kf af tf q_19 q_18 q_20 q_21 q_22 from by first | exact zExt.refl | assumption), (show ((fi slot.toInt.toNat).toInt = 3 → cn.toInt < 8 → q_18.toInt = cn.toInt + 1) ∧ ((fi slot.toInt.toNat).toInt ≠ 3 → q_18.toInt = cn.toInt) ∧ ((fi slot.toInt.toNat).toInt = 0 → sz.toInt = (fi (slot.toInt.toNat + 1)).toInt) ∧ ((fi slot.toInt.toNat).toInt ≠ 0 → sz.toInt = sz.toInt) from by (rw [← e0, ← e1]; refine ⟨?_, ?_, ?_, ?_⟩ <;> (intros; first | rfl | omega | (exfalso; omega) | (simp_all; done)))), (show (∀ j : Nat, j < 40 → fl j = zEl (zDS fi slot.toInt.toNat) fl j) from by (intro j hj; unfold zEl zDS; dsimp only; rw [← e0]; rw [if_neg (by omega), if_neg (by omega)])), (show (∀ j : Nat, j < 40 → fs j = zEs (zDS fi slot.toInt.toNat) fs j) from by (intro j hj; unfold zEs zDS; dsimp only; rw [← e0]; rw [if_neg (by omega), if_neg (by omega)])), (show (((fi slot.toInt.toNat).toInt = 3 → cn.toInt < 8) → q_20 = zEk (zDS fi slot.toInt.toNat) cn.toInt kf ∧ q_21 = zEa (zDS fi slot.toInt.toNat) cn.toInt af ∧ q_22 = zEt (zDS fi slot.toInt.toNat) cn.toInt tf) from by (intro h; rw [← e0] at h; have z := hsr_16_2 (h (by omega)); unfold zEk zEa zEt zDS; dsimp only; rw [← e0, if_pos (by omega), if_pos (by omega), if_pos (by omega), ← e1, ← e2, ← e3, Int32.ofInt_toInt, Int32.ofInt_toInt, Int32.ofInt_toInt]; exact z)), (show fc = zEc (zDS fi slot.toInt.toNat) fc from by (unfold zEc zDS; dsimp only; rw [← e0, if_neg (by omega)])), (show de.toInt = zEnu 4 (zDS fi slot.toInt.toNat) de.toInt ∧ se.toInt = zEnu 5 (zDS fi slot.toInt.toNat) se.toInt ∧ hu.toInt = zEnu 6 (zDS fi slot.toInt.toNat) hu.toInt ∧ gp.toInt = zEnu 7 (zDS fi slot.toInt.toNat) gp.toInt ∧ at_.toInt = zEat (zDS fi slot.toInt.toNat) at_.toInt from by (unfold zEnu zEat zDS; dsimp only; rw [← e0, ← e1]; refine ⟨?_, ?_, ?_, ?_, ?_⟩ <;> ((repeat (first | rw [if_pos (by omega)] | rw [if_neg (by omega)])) <;> first | rfl | omega))), trivial⟩, by rw [ht]; exact hP.part (cx := [(rd, .inr (3, [.ref ri, .ref rl, .int rz, .int rc, .int rp, .int rf, .int rt, .int ru])), (ri, .inl (cI, 132, .inl fi)), (j0, .inr (0, [.ref z0, .ref jp, .ref jc, .int q_18, .int de, .int tr, .int se, .int hu, .int sd])), (z0, .inr (6, [.ref zl, .ref zs, .int sz, .int at_, .int gp])), (zl, .inl (cZ, 40, .inl fl)), (zs, .inl (cI, 40, .inl fs)), (jp, .inl (cP, 8, .inr (.inr (.inr (.inr q_19))))), (jc, .inl (cI, 3, .inl fc))]) (pl := (q_23.map zPo)) [0, 1, 6, 2, 3, 4, 7, 5] rfl, hD.part (cx := [(rd, .inr (3, [.ref ri, .ref rl, .int rz, .int rc, .int rp, .int rf, .int rt, .int ru])), (ri, .inl (cI, 132, .inl fi)), (j0, .inr (0, [.ref z0, .ref jp, .ref jc, .int q_18, .int de, .int tr, .int se, .int hu, .int sd])), (z0, .inr (6, [.ref zl, .ref zs, .int sz, .int at_, .int gp])), (zl, .inl (cZ, 40, .inl fl)), (zs, .inl (cI, 40, .inl fs)), (jp, .inl (cP, 8, .inr (.inr (.inr (.inr q_19))))), (jc, .inl (cI, 3, .inl fc))]) (pl := (q_23.map zPo)) [0, 1, 6, 2, 3, 4, 7, 5] (by decide) rfl⟩, hS.F ht⟩) hS.2.2 dX3_tellItem_172
  · have kc4 : (4 : Int32).toInt = 4 := by decide
    refine lv_tableIn (tgt := 159) hx hb dX3_tellItem_25 (by decide) (by decide) rfl (by decide) ?_
    refine lv_aload_n hx hb dX3_tellItem_159 rfl (lv_at hl 3 rfl) ?_
    refine lv_aload_n hx hb dX3_tellItem_160 rfl (lv_at hl 2 rfl) ?_
    refine va_get (D := D) (ci := 3) (v := .ref ri) (C := RX3) (T := TX3) (N := 8) hx hb hts hi_X3_tellItem_3 hown hK hP 0 rfl rfl 0 (by decide) (hts (.fieldLink RX3 11 "TheLiningsInIt$Reader" "items" "[I") (List.mem_of_getElem? (i := 1) rfl)) (fun _ h9 => h9) rfl dX3_tellItem_161 ?_
    refine lv_iload_n hx hb dX3_tellItem_164 rfl (lv_at hl 4 rfl) ?_
    refine va_iald hx hb hK hP 1 0 rfl rfl (zf_in (by omega) (by omega)) dX3_tellItem_165 ?_
    refine lv_topi (fun y_24 ey_24 => ?_)
    obtain rfl : y_24 = 4 := ey_24.trans ex_5.symm
    refine lv_iconst (v := 4) hx hb dX3_tellItem_166 (by decide) ?_
    refine lv_isub hx hb dX3_tellItem_167 ?_
    refine lv_topi (fun y_25 ey_25 => ?_)
    obtain rfl : y_25 = 0 := ey_25.trans (by decide)
    refine lv_iload_n hx hb dX3_tellItem_168 rfl (lv_at hl 1 rfl) ?_
    have kc0 : (0 : Int32).toInt = 0 := by decide
    skip
    refine zw_Vv (As := [.int 0, .int x_2]) (rest := []) (wr := [(rd, .inr (3, [.ref ri, .ref rl, .int rz, .int rc, .int rp, .int rf, .int rt, .int ru])), (ri, .inl (cI, 132, .inl fi)), (zl, .inl (cZ, 40, .inl fl)), (zs, .inl (cI, 40, .inl fs)), (jp, .inl (cP, 8, .inr (.inr (.inr (.inr fp)))))]) ⟨hx, hb, hml, hown, hts⟩ (c_F_J_setNumber l D cI cJ cZ cP cS po j0 jp jc z0 zl zs (cn) (de) (tr) (se) (hu) (sd) (sz) (at_) (gp) fc (0) (x_2) hy13 hy14 hy15 hy16 hy17 hy18 hy19 hy20 hy21 hy22 hy23 hy24 (by omega) (by omega) (by omega) hp_fc hp_fc H.size) (cwV 2 hts gX3_tellItem_X0_setNumber rfl rfl rfl ⟨rfl, dh_X0_setNumber⟩ ⟨Nat.le_of_ble_eq_true rfl, Nat.le_of_ble_eq_true rfl⟩) hK hN (hZ.kept hS) hP hD hS hA [2, 3, 7] [0, 1, 4, 5, 6] rfl rfl (by decide) (by decide) (by decide) (va_recv (q := (RX0, TX0, 9)) hK hP (ci := 0) (q0 := 2) rfl rfl) rfl hl.1 rfl (Nat.le_of_ble_eq_true rfl) dX3_tellItem_169 ⟨Nat.le_of_ble_eq_true rfl, Nat.le_of_ble_eq_true rfl⟩ (fun u_27 H locs hr_26 hP hD hS => ?_)
    obtain ⟨q_28, q_29, q_30, q_31, q_32, q_33⟩ := u_27
    try dsimp only at hr_26
    obtain ⟨hbq_28, hbq_30, hbq_31, hbq_32, hpq_33, hsr_26_0, hsr_26_1, hr_26⟩ := hr_26
    have h9R := zRe (ws' := [(rd, .inr (3, [.ref ri, .ref rl, .int rz, .int rc, .int rp, .int rf, .int rt, .int ru])), (ri, .inl (cI, 132, .inl fi)), (zl, .inl (cZ, 40, .inl fl)), (zs, .inl (cI, 40, .inl fs)), (jp, .inl (cP, 8, .inr (.inr (.inr (.inr fp))))), (j0, .inr (0, [.ref z0, .ref jp, .ref jc, .int cn, .int q_28, .int tr, .int q_29, .int q_30, .int sd])), (z0, .inr (6, [.ref zl, .ref zs, .int sz, .int q_31, .int q_32])), (jc, .inl (cI, 3, .inl q_33))]) hP hD rfl
    clear hP hD
    obtain ⟨hP, hD⟩ := h9R
    refine W.widen (k := 1) (n := 3) (Nat.le_of_ble_eq_true rfl) (Nat.le_of_ble_eq_true rfl) ?_
    exact W.vret hx hb hr (fun t ht hW => ⟨⟨(q_28, q_29, q_30, sz, q_31, q_32, fl, fs, q_33, cn, fp, kf, af, tf, []), rfl, ⟨(show 0 ≤ q_28.toInt ∧ q_28.toInt ≤ 24 from hbq_28), (show 0 ≤ q_30.toInt ∧ q_30.toInt ≤ 9 from hbq_30), (show 4 ≤ sz.toInt ∧ sz.toInt ≤ 40 from ⟨hy19, hy20⟩), (show 0 ≤ q_31.toInt ∧ q_31.toInt ≤ 40 from hbq_31), (show 1 ≤ q_32.toInt ∧ q_32.toInt ≤ 9 from hbq_32), hp_fl, hp_fs, hpq_33, (show 0 ≤ cn.toInt ∧ cn.toInt ≤ 8 from ⟨hy13, hy14⟩), (by intro z hz; simp at hz), (show zExt [] fp cn kf af tf fp cn kf af tf from by first | exact zExt.refl | assumption), (show ((fi slot.toInt.toNat).toInt = 3 → cn.toInt < 8 → cn.toInt = cn.toInt + 1) ∧ ((fi slot.toInt.toNat).toInt ≠ 3 → cn.toInt = cn.toInt) ∧ ((fi slot.toInt.toNat).toInt = 0 → sz.toInt = (fi (slot.toInt.toNat + 1)).toInt) ∧ ((fi slot.toInt.toNat).toInt ≠ 0 → sz.toInt = sz.toInt) from by (rw [← e0, ← e1]; refine ⟨?_, ?_, ?_, ?_⟩ <;> (intros; first | rfl | omega | (exfalso; omega) | (simp_all; done)))), (show (∀ j : Nat, j < 40 → fl j = zEl (zDS fi slot.toInt.toNat) fl j) from by (intro j hj; unfold zEl zDS; dsimp only; rw [← e0]; rw [if_neg (by omega), if_neg (by omega)])), (show (∀ j : Nat, j < 40 → fs j = zEs (zDS fi slot.toInt.toNat) fs j) from by (intro j hj; unfold zEs zDS; dsimp only; rw [← e0]; rw [if_neg (by omega), if_neg (by omega)])), (show (((fi slot.toInt.toNat).toInt = 3 → cn.toInt < 8) → kf = zEk (zDS fi slot.toInt.toNat) cn.toInt kf ∧ af = zEa (zDS fi slot.toInt.toNat) cn.toInt af ∧ tf = zEt (zDS fi slot.toInt.toNat) cn.toInt tf) from by (intro _; unfold zEk zEa zEt zDS; dsimp only; rw [← e0, if_neg (by omega), if_neg (by omega), if_neg (by omega)]; exact ⟨rfl, rfl, rfl⟩)), (show q_33 = zEc (zDS fi slot.toInt.toNat) fc from by (unfold zEc zDS; dsimp only; rw [← e0, if_neg (by omega)]; exact hsr_26_1.1 (by omega))), (show q_28.toInt = zEnu 4 (zDS fi slot.toInt.toNat) de.toInt ∧ q_29.toInt = zEnu 5 (zDS fi slot.toInt.toNat) se.toInt ∧ q_30.toInt = zEnu 6 (zDS fi slot.toInt.toNat) hu.toInt ∧ q_32.toInt = zEnu 7 (zDS fi slot.toInt.toNat) gp.toInt ∧ q_31.toInt = zEat (zDS fi slot.toInt.toNat) at_.toInt from by (have z := hsr_26_0; obtain ⟨z1, z2, z3, z4, z5⟩ := z; (repeat (first | rw [if_pos (by omega)] at z1 | rw [if_neg (by omega)] at z1)); (repeat (first | rw [if_pos (by omega)] at z2 | rw [if_neg (by omega)] at z2)); (repeat (first | rw [if_pos (by omega)] at z3 | rw [if_neg (by omega)] at z3)); (repeat (first | rw [if_pos (by omega)] at z4 | rw [if_neg (by omega)] at z4)); (repeat (first | rw [if_pos (by omega)] at z5 | rw [if_neg (by omega)] at z5)); unfold zEnu zEat zDS; dsimp only; rw [← e0, ← e1]; refine ⟨?_, ?_, ?_, ?_, ?_⟩ <;> ((repeat (first | rw [if_pos (by omega)] | rw [if_neg (by omega)])) <;> first | rfl | omega))), trivial⟩, zRet ht hP hD [0, 1, 5, 6, 2, 3, 4, 7] (by decide) rfl⟩, hS.F ht⟩) hS.2.2 dX3_tellItem_172
  · have kc5 : (5 : Int32).toInt = 5 := by decide
    refine lv_tableIn (tgt := 159) hx hb dX3_tellItem_25 (by decide) (by decide) rfl (by decide) ?_
    refine lv_aload_n hx hb dX3_tellItem_159 rfl (lv_at hl 3 rfl) ?_
    refine lv_aload_n hx hb dX3_tellItem_160 rfl (lv_at hl 2 rfl) ?_
    refine va_get (D := D) (ci := 3) (v := .ref ri) (C := RX3) (T := TX3) (N := 8) hx hb hts hi_X3_tellItem_3 hown hK hP 0 rfl rfl 0 (by decide) (hts (.fieldLink RX3 11 "TheLiningsInIt$Reader" "items" "[I") (List.mem_of_getElem? (i := 1) rfl)) (fun _ h9 => h9) rfl dX3_tellItem_161 ?_
    refine lv_iload_n hx hb dX3_tellItem_164 rfl (lv_at hl 4 rfl) ?_
    refine va_iald hx hb hK hP 1 0 rfl rfl (zf_in (by omega) (by omega)) dX3_tellItem_165 ?_
    refine lv_topi (fun y_34 ey_34 => ?_)
    obtain rfl : y_34 = 5 := ey_34.trans ex_5.symm
    refine lv_iconst (v := 4) hx hb dX3_tellItem_166 (by decide) ?_
    refine lv_isub hx hb dX3_tellItem_167 ?_
    refine lv_topi (fun y_35 ey_35 => ?_)
    obtain rfl : y_35 = 1 := ey_35.trans (by decide)
    refine lv_iload_n hx hb dX3_tellItem_168 rfl (lv_at hl 1 rfl) ?_
    have kc1 : (1 : Int32).toInt = 1 := by decide
    skip
    refine zw_Vv (As := [.int 1, .int x_2]) (rest := []) (wr := [(rd, .inr (3, [.ref ri, .ref rl, .int rz, .int rc, .int rp, .int rf, .int rt, .int ru])), (ri, .inl (cI, 132, .inl fi)), (zl, .inl (cZ, 40, .inl fl)), (zs, .inl (cI, 40, .inl fs)), (jp, .inl (cP, 8, .inr (.inr (.inr (.inr fp)))))]) ⟨hx, hb, hml, hown, hts⟩ (c_F_J_setNumber l D cI cJ cZ cP cS po j0 jp jc z0 zl zs (cn) (de) (tr) (se) (hu) (sd) (sz) (at_) (gp) fc (1) (x_2) hy13 hy14 hy15 hy16 hy17 hy18 hy19 hy20 hy21 hy22 hy23 hy24 (by omega) (by omega) (by omega) hp_fc hp_fc H.size) (cwV 2 hts gX3_tellItem_X0_setNumber rfl rfl rfl ⟨rfl, dh_X0_setNumber⟩ ⟨Nat.le_of_ble_eq_true rfl, Nat.le_of_ble_eq_true rfl⟩) hK hN (hZ.kept hS) hP hD hS hA [2, 3, 7] [0, 1, 4, 5, 6] rfl rfl (by decide) (by decide) (by decide) (va_recv (q := (RX0, TX0, 9)) hK hP (ci := 0) (q0 := 2) rfl rfl) rfl hl.1 rfl (Nat.le_of_ble_eq_true rfl) dX3_tellItem_169 ⟨Nat.le_of_ble_eq_true rfl, Nat.le_of_ble_eq_true rfl⟩ (fun u_37 H locs hr_36 hP hD hS => ?_)
    obtain ⟨q_38, q_39, q_40, q_41, q_42, q_43⟩ := u_37
    try dsimp only at hr_36
    obtain ⟨hbq_38, hbq_40, hbq_41, hbq_42, hpq_43, hsr_36_0, hsr_36_1, hr_36⟩ := hr_36
    have h9R := zRe (ws' := [(rd, .inr (3, [.ref ri, .ref rl, .int rz, .int rc, .int rp, .int rf, .int rt, .int ru])), (ri, .inl (cI, 132, .inl fi)), (zl, .inl (cZ, 40, .inl fl)), (zs, .inl (cI, 40, .inl fs)), (jp, .inl (cP, 8, .inr (.inr (.inr (.inr fp))))), (j0, .inr (0, [.ref z0, .ref jp, .ref jc, .int cn, .int q_38, .int tr, .int q_39, .int q_40, .int sd])), (z0, .inr (6, [.ref zl, .ref zs, .int sz, .int q_41, .int q_42])), (jc, .inl (cI, 3, .inl q_43))]) hP hD rfl
    clear hP hD
    obtain ⟨hP, hD⟩ := h9R
    refine W.widen (k := 1) (n := 3) (Nat.le_of_ble_eq_true rfl) (Nat.le_of_ble_eq_true rfl) ?_
    exact W.vret hx hb hr (fun t ht hW => ⟨⟨(q_38, q_39, q_40, sz, q_41, q_42, fl, fs, q_43, cn, fp, kf, af, tf, []), rfl, ⟨(show 0 ≤ q_38.toInt ∧ q_38.toInt ≤ 24 from hbq_38), (show 0 ≤ q_40.toInt ∧ q_40.toInt ≤ 9 from hbq_40), (show 4 ≤ sz.toInt ∧ sz.toInt ≤ 40 from ⟨hy19, hy20⟩), (show 0 ≤ q_41.toInt ∧ q_41.toInt ≤ 40 from hbq_41), (show 1 ≤ q_42.toInt ∧ q_42.toInt ≤ 9 from hbq_42), hp_fl, hp_fs, hpq_43, (show 0 ≤ cn.toInt ∧ cn.toInt ≤ 8 from ⟨hy13, hy14⟩), (by intro z hz; simp at hz), (show zExt [] fp cn kf af tf fp cn kf af tf from by first | exact zExt.refl | assumption), (show ((fi slot.toInt.toNat).toInt = 3 → cn.toInt < 8 → cn.toInt = cn.toInt + 1) ∧ ((fi slot.toInt.toNat).toInt ≠ 3 → cn.toInt = cn.toInt) ∧ ((fi slot.toInt.toNat).toInt = 0 → sz.toInt = (fi (slot.toInt.toNat + 1)).toInt) ∧ ((fi slot.toInt.toNat).toInt ≠ 0 → sz.toInt = sz.toInt) from by (rw [← e0, ← e1]; refine ⟨?_, ?_, ?_, ?_⟩ <;> (intros; first | rfl | omega | (exfalso; omega) | (simp_all; done)))), (show (∀ j : Nat, j < 40 → fl j = zEl (zDS fi slot.toInt.toNat) fl j) from by (intro j hj; unfold zEl zDS; dsimp only; rw [← e0]; rw [if_neg (by omega), if_neg (by omega)])), (show (∀ j : Nat, j < 40 → fs j = zEs (zDS fi slot.toInt.toNat) fs j) from by (intro j hj; unfold zEs zDS; dsimp only; rw [← e0]; rw [if_neg (by omega), if_neg (by omega)])), (show (((fi slot.toInt.toNat).toInt = 3 → cn.toInt < 8) → kf = zEk (zDS fi slot.toInt.toNat) cn.toInt kf ∧ af = zEa (zDS fi slot.toInt.toNat) cn.toInt af ∧ tf = zEt (zDS fi slot.toInt.toNat) cn.toInt tf) from by (intro _; unfold zEk zEa zEt zDS; dsimp only; rw [← e0, if_neg (by omega), if_neg (by omega), if_neg (by omega)]; exact ⟨rfl, rfl, rfl⟩)), (show q_43 = zEc (zDS fi slot.toInt.toNat) fc from by (unfold zEc zDS; dsimp only; rw [← e0, if_neg (by omega)]; exact hsr_36_1.1 (by omega))), (show q_38.toInt = zEnu 4 (zDS fi slot.toInt.toNat) de.toInt ∧ q_39.toInt = zEnu 5 (zDS fi slot.toInt.toNat) se.toInt ∧ q_40.toInt = zEnu 6 (zDS fi slot.toInt.toNat) hu.toInt ∧ q_42.toInt = zEnu 7 (zDS fi slot.toInt.toNat) gp.toInt ∧ q_41.toInt = zEat (zDS fi slot.toInt.toNat) at_.toInt from by (have z := hsr_36_0; obtain ⟨z1, z2, z3, z4, z5⟩ := z; (repeat (first | rw [if_pos (by omega)] at z1 | rw [if_neg (by omega)] at z1)); (repeat (first | rw [if_pos (by omega)] at z2 | rw [if_neg (by omega)] at z2)); (repeat (first | rw [if_pos (by omega)] at z3 | rw [if_neg (by omega)] at z3)); (repeat (first | rw [if_pos (by omega)] at z4 | rw [if_neg (by omega)] at z4)); (repeat (first | rw [if_pos (by omega)] at z5 | rw [if_neg (by omega)] at z5)); unfold zEnu zEat zDS; dsimp only; rw [← e0, ← e1]; refine ⟨?_, ?_, ?_, ?_, ?_⟩ <;> ((repeat (first | rw [if_pos (by omega)] | rw [if_neg (by omega)])) <;> first | rfl | omega))), trivial⟩, zRet ht hP hD [0, 1, 5, 6, 2, 3, 4, 7] (by decide) rfl⟩, hS.F ht⟩) hS.2.2 dX3_tellItem_172
  · have kc6 : (6 : Int32).toInt = 6 := by decide
    refine lv_tableIn (tgt := 159) hx hb dX3_tellItem_25 (by decide) (by decide) rfl (by decide) ?_
    refine lv_aload_n hx hb dX3_tellItem_159 rfl (lv_at hl 3 rfl) ?_
    refine lv_aload_n hx hb dX3_tellItem_160 rfl (lv_at hl 2 rfl) ?_
    refine va_get (D := D) (ci := 3) (v := .ref ri) (C := RX3) (T := TX3) (N := 8) hx hb hts hi_X3_tellItem_3 hown hK hP 0 rfl rfl 0 (by decide) (hts (.fieldLink RX3 11 "TheLiningsInIt$Reader" "items" "[I") (List.mem_of_getElem? (i := 1) rfl)) (fun _ h9 => h9) rfl dX3_tellItem_161 ?_
    refine lv_iload_n hx hb dX3_tellItem_164 rfl (lv_at hl 4 rfl) ?_
    refine va_iald hx hb hK hP 1 0 rfl rfl (zf_in (by omega) (by omega)) dX3_tellItem_165 ?_
    refine lv_topi (fun y_44 ey_44 => ?_)
    obtain rfl : y_44 = 6 := ey_44.trans ex_5.symm
    refine lv_iconst (v := 4) hx hb dX3_tellItem_166 (by decide) ?_
    refine lv_isub hx hb dX3_tellItem_167 ?_
    refine lv_topi (fun y_45 ey_45 => ?_)
    obtain rfl : y_45 = 2 := ey_45.trans (by decide)
    refine lv_iload_n hx hb dX3_tellItem_168 rfl (lv_at hl 1 rfl) ?_
    have kc2 : (2 : Int32).toInt = 2 := by decide
    skip
    refine zw_Vv (As := [.int 2, .int x_2]) (rest := []) (wr := [(rd, .inr (3, [.ref ri, .ref rl, .int rz, .int rc, .int rp, .int rf, .int rt, .int ru])), (ri, .inl (cI, 132, .inl fi)), (zl, .inl (cZ, 40, .inl fl)), (zs, .inl (cI, 40, .inl fs)), (jp, .inl (cP, 8, .inr (.inr (.inr (.inr fp)))))]) ⟨hx, hb, hml, hown, hts⟩ (c_F_J_setNumber l D cI cJ cZ cP cS po j0 jp jc z0 zl zs (cn) (de) (tr) (se) (hu) (sd) (sz) (at_) (gp) fc (2) (x_2) hy13 hy14 hy15 hy16 hy17 hy18 hy19 hy20 hy21 hy22 hy23 hy24 (by omega) (by omega) (by omega) hp_fc hp_fc H.size) (cwV 2 hts gX3_tellItem_X0_setNumber rfl rfl rfl ⟨rfl, dh_X0_setNumber⟩ ⟨Nat.le_of_ble_eq_true rfl, Nat.le_of_ble_eq_true rfl⟩) hK hN (hZ.kept hS) hP hD hS hA [2, 3, 7] [0, 1, 4, 5, 6] rfl rfl (by decide) (by decide) (by decide) (va_recv (q := (RX0, TX0, 9)) hK hP (ci := 0) (q0 := 2) rfl rfl) rfl hl.1 rfl (Nat.le_of_ble_eq_true rfl) dX3_tellItem_169 ⟨Nat.le_of_ble_eq_true rfl, Nat.le_of_ble_eq_true rfl⟩ (fun u_47 H locs hr_46 hP hD hS => ?_)
    obtain ⟨q_48, q_49, q_50, q_51, q_52, q_53⟩ := u_47
    try dsimp only at hr_46
    obtain ⟨hbq_48, hbq_50, hbq_51, hbq_52, hpq_53, hsr_46_0, hsr_46_1, hr_46⟩ := hr_46
    have h9R := zRe (ws' := [(rd, .inr (3, [.ref ri, .ref rl, .int rz, .int rc, .int rp, .int rf, .int rt, .int ru])), (ri, .inl (cI, 132, .inl fi)), (zl, .inl (cZ, 40, .inl fl)), (zs, .inl (cI, 40, .inl fs)), (jp, .inl (cP, 8, .inr (.inr (.inr (.inr fp))))), (j0, .inr (0, [.ref z0, .ref jp, .ref jc, .int cn, .int q_48, .int tr, .int q_49, .int q_50, .int sd])), (z0, .inr (6, [.ref zl, .ref zs, .int sz, .int q_51, .int q_52])), (jc, .inl (cI, 3, .inl q_53))]) hP hD rfl
    clear hP hD
    obtain ⟨hP, hD⟩ := h9R
    refine W.widen (k := 1) (n := 3) (Nat.le_of_ble_eq_true rfl) (Nat.le_of_ble_eq_true rfl) ?_
    exact W.vret hx hb hr (fun t ht hW => ⟨⟨(q_48, q_49, q_50, sz, q_51, q_52, fl, fs, q_53, cn, fp, kf, af, tf, []), rfl, ⟨(show 0 ≤ q_48.toInt ∧ q_48.toInt ≤ 24 from hbq_48), (show 0 ≤ q_50.toInt ∧ q_50.toInt ≤ 9 from hbq_50), (show 4 ≤ sz.toInt ∧ sz.toInt ≤ 40 from ⟨hy19, hy20⟩), (show 0 ≤ q_51.toInt ∧ q_51.toInt ≤ 40 from hbq_51), (show 1 ≤ q_52.toInt ∧ q_52.toInt ≤ 9 from hbq_52), hp_fl, hp_fs, hpq_53, (show 0 ≤ cn.toInt ∧ cn.toInt ≤ 8 from ⟨hy13, hy14⟩), (by intro z hz; simp at hz), (show zExt [] fp cn kf af tf fp cn kf af tf from by first | exact zExt.refl | assumption), (show ((fi slot.toInt.toNat).toInt = 3 → cn.toInt < 8 → cn.toInt = cn.toInt + 1) ∧ ((fi slot.toInt.toNat).toInt ≠ 3 → cn.toInt = cn.toInt) ∧ ((fi slot.toInt.toNat).toInt = 0 → sz.toInt = (fi (slot.toInt.toNat + 1)).toInt) ∧ ((fi slot.toInt.toNat).toInt ≠ 0 → sz.toInt = sz.toInt) from by (rw [← e0, ← e1]; refine ⟨?_, ?_, ?_, ?_⟩ <;> (intros; first | rfl | omega | (exfalso; omega) | (simp_all; done)))), (show (∀ j : Nat, j < 40 → fl j = zEl (zDS fi slot.toInt.toNat) fl j) from by (intro j hj; unfold zEl zDS; dsimp only; rw [← e0]; rw [if_neg (by omega), if_neg (by omega)])), (show (∀ j : Nat, j < 40 → fs j = zEs (zDS fi slot.toInt.toNat) fs j) from by (intro j hj; unfold zEs zDS; dsimp only; rw [← e0]; rw [if_neg (by omega), if_neg (by omega)])), (show (((fi slot.toInt.toNat).toInt = 3 → cn.toInt < 8) → kf = zEk (zDS fi slot.toInt.toNat) cn.toInt kf ∧ af = zEa (zDS fi slot.toInt.toNat) cn.toInt af ∧ tf = zEt (zDS fi slot.toInt.toNat) cn.toInt tf) from by (intro _; unfold zEk zEa zEt zDS; dsimp only; rw [← e0, if_neg (by omega), if_neg (by omega), if_neg (by omega)]; exact ⟨rfl, rfl, rfl⟩)), (show q_53 = zEc (zDS fi slot.toInt.toNat) fc from by (unfold zEc zDS; dsimp only; rw [← e0, if_neg (by omega)]; exact hsr_46_1.1 (by omega))), (show q_48.toInt = zEnu 4 (zDS fi slot.toInt.toNat) de.toInt ∧ q_49.toInt = zEnu 5 (zDS fi slot.toInt.toNat) se.toInt ∧ q_50.toInt = zEnu 6 (zDS fi slot.toInt.toNat) hu.toInt ∧ q_52.toInt = zEnu 7 (zDS fi slot.toInt.toNat) gp.toInt ∧ q_51.toInt = zEat (zDS fi slot.toInt.toNat) at_.toInt from by (have z := hsr_46_0; obtain ⟨z1, z2, z3, z4, z5⟩ := z; (repeat (first | rw [if_pos (by omega)] at z1 | rw [if_neg (by omega)] at z1)); (repeat (first | rw [if_pos (by omega)] at z2 | rw [if_neg (by omega)] at z2)); (repeat (first | rw [if_pos (by omega)] at z3 | rw [if_neg (by omega)] at z3)); (repeat (first | rw [if_pos (by omega)] at z4 | rw [if_neg (by omega)] at z4)); (repeat (first | rw [if_pos (by omega)] at z5 | rw [if_neg (by omega)] at z5)); unfold zEnu zEat zDS; dsimp only; rw [← e0, ← e1]; refine ⟨?_, ?_, ?_, ?_, ?_⟩ <;> ((repeat (first | rw [if_pos (by omega)] | rw [if_neg (by omega)])) <;> first | rfl | omega))), trivial⟩, zRet ht hP hD [0, 1, 5, 6, 2, 3, 4, 7] (by decide) rfl⟩, hS.F ht⟩) hS.2.2 dX3_tellItem_172
  · have kc7 : (7 : Int32).toInt = 7 := by decide
    refine lv_tableIn (tgt := 159) hx hb dX3_tellItem_25 (by decide) (by decide) rfl (by decide) ?_
    refine lv_aload_n hx hb dX3_tellItem_159 rfl (lv_at hl 3 rfl) ?_
    refine lv_aload_n hx hb dX3_tellItem_160 rfl (lv_at hl 2 rfl) ?_
    refine va_get (D := D) (ci := 3) (v := .ref ri) (C := RX3) (T := TX3) (N := 8) hx hb hts hi_X3_tellItem_3 hown hK hP 0 rfl rfl 0 (by decide) (hts (.fieldLink RX3 11 "TheLiningsInIt$Reader" "items" "[I") (List.mem_of_getElem? (i := 1) rfl)) (fun _ h9 => h9) rfl dX3_tellItem_161 ?_
    refine lv_iload_n hx hb dX3_tellItem_164 rfl (lv_at hl 4 rfl) ?_
    refine va_iald hx hb hK hP 1 0 rfl rfl (zf_in (by omega) (by omega)) dX3_tellItem_165 ?_
    refine lv_topi (fun y_54 ey_54 => ?_)
    obtain rfl : y_54 = 7 := ey_54.trans ex_5.symm
    refine lv_iconst (v := 4) hx hb dX3_tellItem_166 (by decide) ?_
    refine lv_isub hx hb dX3_tellItem_167 ?_
    refine lv_topi (fun y_55 ey_55 => ?_)
    obtain rfl : y_55 = 3 := ey_55.trans (by decide)
    refine lv_iload_n hx hb dX3_tellItem_168 rfl (lv_at hl 1 rfl) ?_
    have kc3 : (3 : Int32).toInt = 3 := by decide
    skip
    refine zw_Vv (As := [.int 3, .int x_2]) (rest := []) (wr := [(rd, .inr (3, [.ref ri, .ref rl, .int rz, .int rc, .int rp, .int rf, .int rt, .int ru])), (ri, .inl (cI, 132, .inl fi)), (zl, .inl (cZ, 40, .inl fl)), (zs, .inl (cI, 40, .inl fs)), (jp, .inl (cP, 8, .inr (.inr (.inr (.inr fp)))))]) ⟨hx, hb, hml, hown, hts⟩ (c_F_J_setNumber l D cI cJ cZ cP cS po j0 jp jc z0 zl zs (cn) (de) (tr) (se) (hu) (sd) (sz) (at_) (gp) fc (3) (x_2) hy13 hy14 hy15 hy16 hy17 hy18 hy19 hy20 hy21 hy22 hy23 hy24 (by omega) (by omega) (by omega) hp_fc hp_fc H.size) (cwV 2 hts gX3_tellItem_X0_setNumber rfl rfl rfl ⟨rfl, dh_X0_setNumber⟩ ⟨Nat.le_of_ble_eq_true rfl, Nat.le_of_ble_eq_true rfl⟩) hK hN (hZ.kept hS) hP hD hS hA [2, 3, 7] [0, 1, 4, 5, 6] rfl rfl (by decide) (by decide) (by decide) (va_recv (q := (RX0, TX0, 9)) hK hP (ci := 0) (q0 := 2) rfl rfl) rfl hl.1 rfl (Nat.le_of_ble_eq_true rfl) dX3_tellItem_169 ⟨Nat.le_of_ble_eq_true rfl, Nat.le_of_ble_eq_true rfl⟩ (fun u_57 H locs hr_56 hP hD hS => ?_)
    obtain ⟨q_58, q_59, q_60, q_61, q_62, q_63⟩ := u_57
    try dsimp only at hr_56
    obtain ⟨hbq_58, hbq_60, hbq_61, hbq_62, hpq_63, hsr_56_0, hsr_56_1, hr_56⟩ := hr_56
    have h9R := zRe (ws' := [(rd, .inr (3, [.ref ri, .ref rl, .int rz, .int rc, .int rp, .int rf, .int rt, .int ru])), (ri, .inl (cI, 132, .inl fi)), (zl, .inl (cZ, 40, .inl fl)), (zs, .inl (cI, 40, .inl fs)), (jp, .inl (cP, 8, .inr (.inr (.inr (.inr fp))))), (j0, .inr (0, [.ref z0, .ref jp, .ref jc, .int cn, .int q_58, .int tr, .int q_59, .int q_60, .int sd])), (z0, .inr (6, [.ref zl, .ref zs, .int sz, .int q_61, .int q_62])), (jc, .inl (cI, 3, .inl q_63))]) hP hD rfl
    clear hP hD
    obtain ⟨hP, hD⟩ := h9R
    refine W.widen (k := 1) (n := 3) (Nat.le_of_ble_eq_true rfl) (Nat.le_of_ble_eq_true rfl) ?_
    exact W.vret hx hb hr (fun t ht hW => ⟨⟨(q_58, q_59, q_60, sz, q_61, q_62, fl, fs, q_63, cn, fp, kf, af, tf, []), rfl, ⟨(show 0 ≤ q_58.toInt ∧ q_58.toInt ≤ 24 from hbq_58), (show 0 ≤ q_60.toInt ∧ q_60.toInt ≤ 9 from hbq_60), (show 4 ≤ sz.toInt ∧ sz.toInt ≤ 40 from ⟨hy19, hy20⟩), (show 0 ≤ q_61.toInt ∧ q_61.toInt ≤ 40 from hbq_61), (show 1 ≤ q_62.toInt ∧ q_62.toInt ≤ 9 from hbq_62), hp_fl, hp_fs, hpq_63, (show 0 ≤ cn.toInt ∧ cn.toInt ≤ 8 from ⟨hy13, hy14⟩), (by intro z hz; simp at hz), (show zExt [] fp cn kf af tf fp cn kf af tf from by first | exact zExt.refl | assumption), (show ((fi slot.toInt.toNat).toInt = 3 → cn.toInt < 8 → cn.toInt = cn.toInt + 1) ∧ ((fi slot.toInt.toNat).toInt ≠ 3 → cn.toInt = cn.toInt) ∧ ((fi slot.toInt.toNat).toInt = 0 → sz.toInt = (fi (slot.toInt.toNat + 1)).toInt) ∧ ((fi slot.toInt.toNat).toInt ≠ 0 → sz.toInt = sz.toInt) from by (rw [← e0, ← e1]; refine ⟨?_, ?_, ?_, ?_⟩ <;> (intros; first | rfl | omega | (exfalso; omega) | (simp_all; done)))), (show (∀ j : Nat, j < 40 → fl j = zEl (zDS fi slot.toInt.toNat) fl j) from by (intro j hj; unfold zEl zDS; dsimp only; rw [← e0]; rw [if_neg (by omega), if_neg (by omega)])), (show (∀ j : Nat, j < 40 → fs j = zEs (zDS fi slot.toInt.toNat) fs j) from by (intro j hj; unfold zEs zDS; dsimp only; rw [← e0]; rw [if_neg (by omega), if_neg (by omega)])), (show (((fi slot.toInt.toNat).toInt = 3 → cn.toInt < 8) → kf = zEk (zDS fi slot.toInt.toNat) cn.toInt kf ∧ af = zEa (zDS fi slot.toInt.toNat) cn.toInt af ∧ tf = zEt (zDS fi slot.toInt.toNat) cn.toInt tf) from by (intro _; unfold zEk zEa zEt zDS; dsimp only; rw [← e0, if_neg (by omega), if_neg (by omega), if_neg (by omega)]; exact ⟨rfl, rfl, rfl⟩)), (show q_63 = zEc (zDS fi slot.toInt.toNat) fc from by (unfold zEc zDS; dsimp only; rw [← e0, if_neg (by omega)]; exact hsr_56_1.1 (by omega))), (show q_58.toInt = zEnu 4 (zDS fi slot.toInt.toNat) de.toInt ∧ q_59.toInt = zEnu 5 (zDS fi slot.toInt.toNat) se.toInt ∧ q_60.toInt = zEnu 6 (zDS fi slot.toInt.toNat) hu.toInt ∧ q_62.toInt = zEnu 7 (zDS fi slot.toInt.toNat) gp.toInt ∧ q_61.toInt = zEat (zDS fi slot.toInt.toNat) at_.toInt from by (have z := hsr_56_0; obtain ⟨z1, z2, z3, z4, z5⟩ := z; (repeat (first | rw [if_pos (by omega)] at z1 | rw [if_neg (by omega)] at z1)); (repeat (first | rw [if_pos (by omega)] at z2 | rw [if_neg (by omega)] at z2)); (repeat (first | rw [if_pos (by omega)] at z3 | rw [if_neg (by omega)] at z3)); (repeat (first | rw [if_pos (by omega)] at z4 | rw [if_neg (by omega)] at z4)); (repeat (first | rw [if_pos (by omega)] at z5 | rw [if_neg (by omega)] at z5)); unfold zEnu zEat zDS; dsimp only; rw [← e0, ← e1]; refine ⟨?_, ?_, ?_, ?_, ?_⟩ <;> ((repeat (first | rw [if_pos (by omega)] | rw [if_neg (by omega)])) <;> first | rfl | omega))), trivial⟩, zRet ht hP hD [0, 1, 5, 6, 2, 3, 4, 7] (by decide) rfl⟩, hS.F ht⟩) hS.2.2 dX3_tellItem_172
  · have kc8 : (8 : Int32).toInt = 8 := by decide
    refine lv_tableIn (tgt := 137) hx hb dX3_tellItem_25 (by decide) (by decide) rfl (by decide) ?_
    refine lv_aload_n hx hb dX3_tellItem_137 rfl (lv_at hl 3 rfl) ?_
    refine va_get (D := D) (ci := 0) (v := .ref jc) (C := RX0) (T := TX0) (N := 9) hx hb hts hi_X3_tellItem_0 hown hK hP 2 rfl rfl 2 (by decide) (hts (.fieldLink RX3 158 "TheLiningsInIt$Jacket" "costs" "[I") (List.mem_of_getElem? (i := 5) rfl)) (fun _ h9 => h9) rfl dX3_tellItem_138 ?_
    refine lv_iload_n hx hb dX3_tellItem_141 rfl (lv_at hl 1 rfl) ?_
    refine lv_iload hx hb dX3_tellItem_142 (lv_at hl 0 rfl) ?_
    refine va_iast hx hb hK hP hD hS 7 0 rfl rfl (zf_in (by omega) (by omega)) dX3_tellItem_144 (fun H locs hP hD hS => ?_)
    have hpg_64 : zRg (upd fc x_2.toNatClampNeg x_4) (0) 99 := zRg_upd hp_fc (by omega) (by omega)
    obtain ⟨g_64, hg_64⟩ : ∃ g : Nat → Int32, g = upd fc x_2.toNatClampNeg x_4 := ⟨_, rfl⟩
    rw [← hg_64] at hP hD hpg_64
    have h9R := zRe (ws' := [(rd, .inr (3, [.ref ri, .ref rl, .int rz, .int rc, .int rp, .int rf, .int rt, .int ru])), (ri, .inl (cI, 132, .inl fi)), (j0, .inr (0, [.ref z0, .ref jp, .ref jc, .int cn, .int de, .int tr, .int se, .int hu, .int sd])), (z0, .inr (6, [.ref zl, .ref zs, .int sz, .int at_, .int gp])), (zl, .inl (cZ, 40, .inl fl)), (zs, .inl (cI, 40, .inl fs)), (jp, .inl (cP, 8, .inr (.inr (.inr (.inr fp))))), (jc, .inl (cI, 3, .inl g_64))]) hP hD rfl
    clear hP hD
    obtain ⟨hP, hD⟩ := h9R
    refine lv_goto (tgt := 172) hx hb dX3_tellItem_145 (by decide) ?_
    refine W.widen (k := 1) (n := 3) (Nat.le_of_ble_eq_true rfl) (Nat.le_of_ble_eq_true rfl) ?_
    exact W.vret hx hb hr (fun t ht hW => ⟨⟨(de, se, hu, sz, at_, gp, fl, fs, g_64, cn, fp, kf, af, tf, []), rfl, ⟨(show 0 ≤ de.toInt ∧ de.toInt ≤ 24 from ⟨hy15, hy16⟩), (show 0 ≤ hu.toInt ∧ hu.toInt ≤ 9 from ⟨hy17, hy18⟩), (show 4 ≤ sz.toInt ∧ sz.toInt ≤ 40 from ⟨hy19, hy20⟩), (show 0 ≤ at_.toInt ∧ at_.toInt ≤ 40 from ⟨hy21, hy22⟩), (show 1 ≤ gp.toInt ∧ gp.toInt ≤ 9 from ⟨hy23, hy24⟩), hp_fl, hp_fs, hpg_64, (show 0 ≤ cn.toInt ∧ cn.toInt ≤ 8 from ⟨hy13, hy14⟩), (by intro z hz; simp at hz), (show zExt [] fp cn kf af tf fp cn kf af tf from by first | exact zExt.refl | assumption), (show ((fi slot.toInt.toNat).toInt = 3 → cn.toInt < 8 → cn.toInt = cn.toInt + 1) ∧ ((fi slot.toInt.toNat).toInt ≠ 3 → cn.toInt = cn.toInt) ∧ ((fi slot.toInt.toNat).toInt = 0 → sz.toInt = (fi (slot.toInt.toNat + 1)).toInt) ∧ ((fi slot.toInt.toNat).toInt ≠ 0 → sz.toInt = sz.toInt) from by (rw [← e0, ← e1]; refine ⟨?_, ?_, ?_, ?_⟩ <;> (intros; first | rfl | omega | (exfalso; omega) | (simp_all; done)))), (show (∀ j : Nat, j < 40 → fl j = zEl (zDS fi slot.toInt.toNat) fl j) from by (intro j hj; unfold zEl zDS; dsimp only; rw [← e0]; rw [if_neg (by omega), if_neg (by omega)])), (show (∀ j : Nat, j < 40 → fs j = zEs (zDS fi slot.toInt.toNat) fs j) from by (intro j hj; unfold zEs zDS; dsimp only; rw [← e0]; rw [if_neg (by omega), if_neg (by omega)])), (show (((fi slot.toInt.toNat).toInt = 3 → cn.toInt < 8) → kf = zEk (zDS fi slot.toInt.toNat) cn.toInt kf ∧ af = zEa (zDS fi slot.toInt.toNat) cn.toInt af ∧ tf = zEt (zDS fi slot.toInt.toNat) cn.toInt tf) from by (intro _; unfold zEk zEa zEt zDS; dsimp only; rw [← e0, if_neg (by omega), if_neg (by omega), if_neg (by omega)]; exact ⟨rfl, rfl, rfl⟩)), (show g_64 = zEc (zDS fi slot.toInt.toNat) fc from by (unfold zEc zDS; dsimp only; rw [← e0, if_pos (by omega), ← e1, ← e2, Int32.ofInt_toInt, hg_64]; rfl)), (show de.toInt = zEnu 4 (zDS fi slot.toInt.toNat) de.toInt ∧ se.toInt = zEnu 5 (zDS fi slot.toInt.toNat) se.toInt ∧ hu.toInt = zEnu 6 (zDS fi slot.toInt.toNat) hu.toInt ∧ gp.toInt = zEnu 7 (zDS fi slot.toInt.toNat) gp.toInt ∧ at_.toInt = zEat (zDS fi slot.toInt.toNat) at_.toInt from by (unfold zEnu zEat zDS; dsimp only; rw [← e0, ← e1]; refine ⟨?_, ?_, ?_, ?_, ?_⟩ <;> ((repeat (first | rw [if_pos (by omega)] | rw [if_neg (by omega)])) <;> first | rfl | omega))), trivial⟩, zRet ht hP hD [0, 1, 2, 3, 4, 5, 6, 7] (by decide) rfl⟩, hS.F ht⟩) hS.2.2 dX3_tellItem_172
  · have kc9 : (9 : Int32).toInt = 9 := by decide
    refine lv_tableIn (tgt := 148) hx hb dX3_tellItem_25 (by decide) (by decide) rfl (by decide) ?_
    refine lv_aload_n hx hb dX3_tellItem_148 rfl (lv_at hl 3 rfl) ?_
    refine va_get (D := D) (ci := 0) (v := .ref z0) (C := RX0) (T := TX0) (N := 9) hx hb hts hi_X3_tellItem_0 hown hK hP 2 rfl rfl 0 (by decide) (hts (.fieldLink RX3 136 "TheLiningsInIt$Jacket" "zip" "LTheLiningsInIt$Zip;") (List.mem_of_getElem? (i := 2) rfl)) (fun _ h9 => h9) rfl dX3_tellItem_149 ?_
    refine lv_iload_n hx hb dX3_tellItem_152 rfl (lv_at hl 1 rfl) ?_
    refine va_put (D := D) (ci := 6) (v := .int x_2) (ty := .int) (C := RX6) (T := TX6) (N := 5) hx hb hts hi_X3_tellItem_6 tyX6 tyX6_ok nmX6 hown hK hP hD hS 3 rfl rfl 3 (by decide) (hts (.fieldLink RX3 161 "TheLiningsInIt$Zip" "at" "I") (List.mem_of_getElem? (i := 6) rfl)) (fun _ h9 => h9) rfl (tyX6_ok 3 (Nat.le_of_ble_eq_true rfl)) rfl rfl (Nat.le_of_ble_eq_true rfl) dX3_tellItem_153 (fun H locs hP hD hS => ?_)
    have h9R := zRe (ws' := [(rd, .inr (3, [.ref ri, .ref rl, .int rz, .int rc, .int rp, .int rf, .int rt, .int ru])), (ri, .inl (cI, 132, .inl fi)), (j0, .inr (0, [.ref z0, .ref jp, .ref jc, .int cn, .int de, .int tr, .int se, .int hu, .int sd])), (z0, .inr (6, [.ref zl, .ref zs, .int sz, .int x_2, .int gp])), (zl, .inl (cZ, 40, .inl fl)), (zs, .inl (cI, 40, .inl fs)), (jp, .inl (cP, 8, .inr (.inr (.inr (.inr fp))))), (jc, .inl (cI, 3, .inl fc))]) hP hD rfl
    clear hP hD
    obtain ⟨hP, hD⟩ := h9R
    refine lv_goto (tgt := 172) hx hb dX3_tellItem_156 (by decide) ?_
    refine W.widen (k := 1) (n := 3) (Nat.le_of_ble_eq_true rfl) (Nat.le_of_ble_eq_true rfl) ?_
    exact W.vret hx hb hr (fun t ht hW => ⟨⟨(de, se, hu, sz, x_2, gp, fl, fs, fc, cn, fp, kf, af, tf, []), rfl, ⟨(show 0 ≤ de.toInt ∧ de.toInt ≤ 24 from ⟨hy15, hy16⟩), (show 0 ≤ hu.toInt ∧ hu.toInt ≤ 9 from ⟨hy17, hy18⟩), (show 4 ≤ sz.toInt ∧ sz.toInt ≤ 40 from ⟨hy19, hy20⟩), (show 0 ≤ x_2.toInt ∧ x_2.toInt ≤ 40 from ⟨by omega, by omega⟩), (show 1 ≤ gp.toInt ∧ gp.toInt ≤ 9 from ⟨hy23, hy24⟩), hp_fl, hp_fs, hp_fc, (show 0 ≤ cn.toInt ∧ cn.toInt ≤ 8 from ⟨hy13, hy14⟩), (by intro z hz; simp at hz), (show zExt [] fp cn kf af tf fp cn kf af tf from by first | exact zExt.refl | assumption), (show ((fi slot.toInt.toNat).toInt = 3 → cn.toInt < 8 → cn.toInt = cn.toInt + 1) ∧ ((fi slot.toInt.toNat).toInt ≠ 3 → cn.toInt = cn.toInt) ∧ ((fi slot.toInt.toNat).toInt = 0 → sz.toInt = (fi (slot.toInt.toNat + 1)).toInt) ∧ ((fi slot.toInt.toNat).toInt ≠ 0 → sz.toInt = sz.toInt) from by (rw [← e0, ← e1]; refine ⟨?_, ?_, ?_, ?_⟩ <;> (intros; first | rfl | omega | (exfalso; omega) | (simp_all; done)))), (show (∀ j : Nat, j < 40 → fl j = zEl (zDS fi slot.toInt.toNat) fl j) from by (intro j hj; unfold zEl zDS; dsimp only; rw [← e0]; rw [if_neg (by omega), if_neg (by omega)])), (show (∀ j : Nat, j < 40 → fs j = zEs (zDS fi slot.toInt.toNat) fs j) from by (intro j hj; unfold zEs zDS; dsimp only; rw [← e0]; rw [if_neg (by omega), if_neg (by omega)])), (show (((fi slot.toInt.toNat).toInt = 3 → cn.toInt < 8) → kf = zEk (zDS fi slot.toInt.toNat) cn.toInt kf ∧ af = zEa (zDS fi slot.toInt.toNat) cn.toInt af ∧ tf = zEt (zDS fi slot.toInt.toNat) cn.toInt tf) from by (intro _; unfold zEk zEa zEt zDS; dsimp only; rw [← e0, if_neg (by omega), if_neg (by omega), if_neg (by omega)]; exact ⟨rfl, rfl, rfl⟩)), (show fc = zEc (zDS fi slot.toInt.toNat) fc from by (unfold zEc zDS; dsimp only; rw [← e0, if_neg (by omega)])), (show de.toInt = zEnu 4 (zDS fi slot.toInt.toNat) de.toInt ∧ se.toInt = zEnu 5 (zDS fi slot.toInt.toNat) se.toInt ∧ hu.toInt = zEnu 6 (zDS fi slot.toInt.toNat) hu.toInt ∧ gp.toInt = zEnu 7 (zDS fi slot.toInt.toNat) gp.toInt ∧ x_2.toInt = zEat (zDS fi slot.toInt.toNat) at_.toInt from by (unfold zEnu zEat zDS; dsimp only; rw [← e0, ← e1]; refine ⟨?_, ?_, ?_, ?_, ?_⟩ <;> ((repeat (first | rw [if_pos (by omega)] | rw [if_neg (by omega)])) <;> first | rfl | omega))), trivial⟩, zRet ht hP hD [0, 1, 2, 3, 4, 5, 6, 7] (by decide) rfl⟩, hS.F ht⟩) hS.2.2 dX3_tellItem_172
set_option maxHeartbeats 4000000 in
set_option maxRecDepth 100000 in
theorem c_F_R_tell (l : Launch) (D : va_G) (cI cJ cZ cP cS : ClassId) (po : zPool) (rd ri rl : Nat) (rz rc rp rf rt ru : Int32) (fi : Nat → Int32) (j0 jp jc z0 zl zs : Nat) (cn de tr se hu sd : Int32) (sz at_ gp : Int32) (fl fs : Nat → Int32) (fp : Nat → Option Nat) (kf af tf : Nat → Int32) (fc : Nat → Int32) (hy0 : 0 ≤ rz.toInt) (hy1 : rz.toInt ≤ 160) (hy2 : 0 ≤ rc.toInt) (hy3 : rc.toInt ≤ 40) (hy4 : 0 ≤ rp.toInt) (hy5 : rp.toInt ≤ 160) (hy6 : rp.toInt ≤ rz.toInt) (hy7 : (-1) ≤ rf.toInt) (hy8 : rf.toInt ≤ 160) (hy9 : 0 ≤ rt.toInt) (hy10 : rt.toInt ≤ 40) (hy11 : 0 ≤ ru.toInt) (hy12 : ru.toInt ≤ 8) (hy13 : 0 ≤ cn.toInt) (hy14 : cn.toInt ≤ 8) (hy15 : 0 ≤ de.toInt) (hy16 : de.toInt ≤ 24) (hy17 : 0 ≤ hu.toInt) (hy18 : hu.toInt ≤ 9) (hy19 : 4 ≤ sz.toInt) (hy20 : sz.toInt ≤ 40) (hy21 : 0 ≤ at_.toInt) (hy22 : at_.toInt ≤ 40) (hy23 : 1 ≤ gp.toInt) (hy24 : gp.toInt ≤ 9) (hy25 : 0 ≤ rc.toInt) (hy26 : rc.toInt ≤ 33) (hits : ∀ k : Nat, k < rc.toInt.toNat → zIt fi (4 * k)) (hcp : cn.toInt + zCP fi rc.toInt.toNat ≤ 8) (hp_fl : zRg fl (0) 1) (hp_fs : zRg fs (0) 9) (hp_fc : zRg fc (0) 99) (hpz : Nat) : Met l yX3_tell wsX3_tell ({ frames := 4, cells := 40, slots := 120, locals := 82 }) (va_Pc [.ref rd, .ref j0] (zW D (zKT cI cJ cZ cP cS) po [(rd, .inr (3, [.ref ri, .ref rl, .int rz, .int rc, .int rp, .int rf, .int rt, .int ru])), (ri, .inl (cI, 132, .inl fi)), (j0, .inr (0, [.ref z0, .ref jp, .ref jc, .int cn, .int de, .int tr, .int se, .int hu, .int sd])), (z0, .inr (6, [.ref zl, .ref zs, .int sz, .int at_, .int gp])), (zl, .inl (cZ, 40, .inl fl)), (zs, .inl (cI, 40, .inl fs)), (jp, .inl (cP, 8, .inr (.inr (.inr (.inr fp))))), (jc, .inl (cI, 3, .inl fc))] hpz)) (va_Qv (fun (u : (Int32) × (Int32) × (Int32) × (Int32) × (Int32) × (Int32) × (Nat → Int32) × (Nat → Int32) × (Nat → Int32) × (Int32) × (Nat → Option Nat) × (Nat → Int32) × (Nat → Int32) × (Nat → Int32) × (List (Nat × Int32 × Int32 × Int32))) => (0 ≤ u.1.toInt ∧ u.1.toInt ≤ 24) ∧ (0 ≤ u.2.2.1.toInt ∧ u.2.2.1.toInt ≤ 9) ∧ (4 ≤ u.2.2.2.1.toInt ∧ u.2.2.2.1.toInt ≤ 40) ∧ (0 ≤ u.2.2.2.2.1.toInt ∧ u.2.2.2.2.1.toInt ≤ 40) ∧ (1 ≤ u.2.2.2.2.2.1.toInt ∧ u.2.2.2.2.2.1.toInt ≤ 9) ∧ zRg u.2.2.2.2.2.2.1 (0) 1 ∧ zRg u.2.2.2.2.2.2.2.1 (0) 9 ∧ zRg u.2.2.2.2.2.2.2.2.1 (0) 99 ∧ (0 ≤ u.2.2.2.2.2.2.2.2.2.1.toInt ∧ u.2.2.2.2.2.2.2.2.2.1.toInt ≤ 8) ∧ (∀ z ∈ u.2.2.2.2.2.2.2.2.2.2.2.2.2.2, zPr z.2.1 z.2.2.1 z.2.2.2) ∧ (zExt u.2.2.2.2.2.2.2.2.2.2.2.2.2.2 fp cn kf af tf u.2.2.2.2.2.2.2.2.2.2.1 u.2.2.2.2.2.2.2.2.2.1 u.2.2.2.2.2.2.2.2.2.2.2.1 u.2.2.2.2.2.2.2.2.2.2.2.2.1 u.2.2.2.2.2.2.2.2.2.2.2.2.2.1) ∧ (u.2.2.2.2.2.2.2.2.2.1.toInt = cn.toInt + zCP fi rc.toInt.toNat) ∧ (u.2.2.2.1.toInt = zLT fi sz.toInt rc.toInt.toNat) ∧ ((∀ j : Nat, j < 40 → u.2.2.2.2.2.2.1 j = zRl (zDF fi) fl rc.toInt.toNat j)) ∧ ((∀ j : Nat, j < 40 → u.2.2.2.2.2.2.2.1 j = zRs (zDF fi) fs rc.toInt.toNat j)) ∧ ((u.2.2.2.2.2.2.2.2.2.2.2.1 = zRk (zDF fi) cn.toInt kf rc.toInt.toNat ∧ u.2.2.2.2.2.2.2.2.2.2.2.2.1 = zRa (zDF fi) cn.toInt af rc.toInt.toNat ∧ u.2.2.2.2.2.2.2.2.2.2.2.2.2.1 = zRt (zDF fi) cn.toInt tf rc.toInt.toNat)) ∧ (u.2.2.2.2.2.2.2.2.1 = zRc (zDF fi) fc rc.toInt.toNat) ∧ ((u.1.toInt = zRn 4 (zDF fi) de.toInt rc.toInt.toNat ∧ u.2.1.toInt = zRn 5 (zDF fi) se.toInt rc.toInt.toNat ∧ u.2.2.1.toInt = zRn 6 (zDF fi) hu.toInt rc.toInt.toNat ∧ u.2.2.2.2.2.1.toInt = zRn 7 (zDF fi) gp.toInt rc.toInt.toNat ∧ u.2.2.2.2.1.toInt = zRat (zDF fi) at_.toInt rc.toInt.toNat)) ∧ (True)) (zB D [(rd, .inr (3, [.ref ri, .ref rl, .int rz, .int rc, .int rp, .int rf, .int rt, .int ru])), (ri, .inl (cI, 132, .inl fi)), (j0, .inr (0, [.ref z0, .ref jp, .ref jc, .int cn, .int de, .int tr, .int se, .int hu, .int sd])), (z0, .inr (6, [.ref zl, .ref zs, .int sz, .int at_, .int gp])), (zl, .inl (cZ, 40, .inl fl)), (zs, .inl (cI, 40, .inl fs)), (jp, .inl (cP, 8, .inr (.inr (.inr (.inr fp))))), (jc, .inl (cI, 3, .inl fc))] hpz (fun (u : (Int32) × (Int32) × (Int32) × (Int32) × (Int32) × (Int32) × (Nat → Int32) × (Nat → Int32) × (Nat → Int32) × (Int32) × (Nat → Option Nat) × (Nat → Int32) × (Nat → Int32) × (Nat → Int32) × (List (Nat × Int32 × Int32 × Int32))) => ([(rd, .inr (3, [.ref ri, .ref rl, .int rz, .int rc, .int rp, .int rf, .int rt, .int ru])), (ri, .inl (cI, 132, .inl fi)), (j0, .inr (0, [.ref z0, .ref jp, .ref jc, .int u.2.2.2.2.2.2.2.2.2.1, .int u.1, .int tr, .int u.2.1, .int u.2.2.1, .int sd])), (z0, .inr (6, [.ref zl, .ref zs, .int u.2.2.2.1, .int u.2.2.2.2.1, .int u.2.2.2.2.2.1])), (zl, .inl (cZ, 40, .inl u.2.2.2.2.2.2.1)), (zs, .inl (cI, 40, .inl u.2.2.2.2.2.2.2.1)), (jp, .inl (cP, 8, .inr (.inr (.inr (.inr u.2.2.2.2.2.2.2.2.2.2.1))))), (jc, .inl (cI, 3, .inl u.2.2.2.2.2.2.2.2.1))] ++ u.2.2.2.2.2.2.2.2.2.2.2.2.2.2.map zPo))) (va_A [(rd, .inr (3, [.ref ri, .ref rl, .int rz, .int rc, .int rp, .int rf, .int rt, .int ru])), (ri, .inl (cI, 132, .inl fi)), (j0, .inr (0, [.ref z0, .ref jp, .ref jc, .int cn, .int de, .int tr, .int se, .int hu, .int sd])), (z0, .inr (6, [.ref zl, .ref zs, .int sz, .int at_, .int gp])), (zl, .inl (cZ, 40, .inl fl)), (zs, .inl (cI, 40, .inl fs)), (jp, .inl (cP, 8, .inr (.inr (.inr (.inr fp))))), (jc, .inl (cI, 3, .inl fc))] hpz)) 40 120 (va_A [(rd, .inr (3, [.ref ri, .ref rl, .int rz, .int rc, .int rp, .int rf, .int rt, .int ru])), (ri, .inl (cI, 132, .inl fi)), (j0, .inr (0, [.ref z0, .ref jp, .ref jc, .int cn, .int de, .int tr, .int se, .int hu, .int sd])), (z0, .inr (6, [.ref zl, .ref zs, .int sz, .int at_, .int gp])), (zl, .inl (cZ, 40, .inl fl)), (zs, .inl (cI, 40, .inl fs)), (jp, .inl (cP, 8, .inr (.inr (.inr (.inr fp))))), (jc, .inl (cI, 3, .inl fc))] hpz) := by
  refine Met.ofW (cc := cX3_tell) (maxL := 3) (ret := none) (by decide) rfl ?_
  intro p e s m args below meth c s₁ B hml hv
  obtain ⟨rfl, hsz, hP, hK, hD0, hN, hZ⟩ := hv
  have hx := B.exec
  have hb := B.bytes
  have hr := B.returns
  have hts := atoms_spec (ws := wsX3_tell) B.pre
  have hown : s.vm.findClass RX3 = some m.cls := findClass_of_methodNamed B.named
  have hlocks := B.notSynchronized
  subst hsz
  have hD := hD0.self (sz := s.heap.size)
  have hA := zA_of hD
  have hl := lv_entry ([.ref rd, .ref j0]) (n := 3) (Nat.le_of_ble_eq_true rfl)
  rw [lg_entry_eq]
  generalize (lg_sl ([.ref rd, .ref j0]) ++ List.replicate (3 - (lg_sl ([.ref rd, .ref j0])).length) Slot.unset).toArray = ls at hl ⊢
  replace hl : lv_has ls 3 [(0, .ref rd), (1, .ref j0)] := hl
  refine zw_begin hP hD (fun H locs hP1 hS => ?_)
  clear hP
  have hP := hP1
  clear hP1
  refine lv_iconst (v := 0) hx hb dX3_tell_0 (by decide) ?_
  refine lv_istore_n (lv' := [(2, .int 0), (0, .ref rd), (1, .ref j0)]) hx hb dX3_tell_1 rfl hl (by decide) rfl (fun ls hl => ?_)
  obtain ⟨i_2, hi_2⟩ : ∃ i : Int32, i = 0 := ⟨_, rfl⟩
  replace hl : lv_has ls 3 [(2, .int i_2), (0, .ref rd), (1, .ref j0)] := by rw [hi_2]; exact lv_sub hl [0, 1, 2] rfl
  have h1i_2 : i_2.toInt = 0 := by rw [hi_2]; decide
  obtain ⟨nfu, hni_2⟩ : ∃ nq9 : Nat, rc.toInt ≤ i_2.toInt + (nq9 : Int) := ⟨((rc.toInt : Int) - 0).toNat, by omega⟩
  have hloi_2 : 0 ≤ i_2.toInt := by omega
  obtain ⟨g_1, hg_1⟩ : ∃ g : Nat → Int32, g = fl := ⟨_, rfl⟩
  have hpg_1 : zRg g_1 (0) 1 := by rw [hg_1]; exact hp_fl
  obtain ⟨g_2, hg_2⟩ : ∃ g : Nat → Int32, g = fs := ⟨_, rfl⟩
  have hpg_2 : zRg g_2 (0) 9 := by rw [hg_2]; exact hp_fs
  obtain ⟨g_3, hg_3⟩ : ∃ g : Nat → Int32, g = fc := ⟨_, rfl⟩
  have hpg_3 : zRg g_3 (0) 99 := by rw [hg_3]; exact hp_fc
  obtain ⟨g_4, hg_4⟩ : ∃ g : Nat → Option Nat, g = fp := ⟨_, rfl⟩
  obtain ⟨v_5, hv_5⟩ : ∃ g : Int32, g = sz := ⟨_, rfl⟩
  have hbv_5 : 4 ≤ v_5.toInt ∧ v_5.toInt ≤ 40 := by rw [hv_5]; exact ⟨by omega, by omega⟩
  obtain ⟨v_6, hv_6⟩ : ∃ g : Int32, g = at_ := ⟨_, rfl⟩
  have hbv_6 : 0 ≤ v_6.toInt ∧ v_6.toInt ≤ 40 := by rw [hv_6]; exact ⟨by omega, by omega⟩
  obtain ⟨v_7, hv_7⟩ : ∃ g : Int32, g = gp := ⟨_, rfl⟩
  have hbv_7 : 1 ≤ v_7.toInt ∧ v_7.toInt ≤ 9 := by rw [hv_7]; exact ⟨by omega, by omega⟩
  obtain ⟨v_8, hv_8⟩ : ∃ g : Int32, g = cn := ⟨_, rfl⟩
  have hbv_8 : 0 ≤ v_8.toInt ∧ v_8.toInt ≤ 8 := by rw [hv_8]; exact ⟨by omega, by omega⟩
  obtain ⟨v_9, hv_9⟩ : ∃ g : Int32, g = de := ⟨_, rfl⟩
  have hbv_9 : 0 ≤ v_9.toInt ∧ v_9.toInt ≤ 24 := by rw [hv_9]; exact ⟨by omega, by omega⟩
  obtain ⟨v_10, hv_10⟩ : ∃ g : Int32, g = se := ⟨_, rfl⟩
  obtain ⟨v_11, hv_11⟩ : ∃ g : Int32, g = hu := ⟨_, rfl⟩
  have hbv_11 : 0 ≤ v_11.toInt ∧ v_11.toInt ≤ 9 := by rw [hv_11]; exact ⟨by omega, by omega⟩
  replace hP : va_P D vwCl [(rd, .inr (3, [.ref ri, .ref rl, .int rz, .int rc, .int rp, .int rf, .int rt, .int ru])), (ri, .inl (cI, 132, .inl fi)), (j0, .inr (0, [.ref z0, .ref jp, .ref jc, .int v_8, .int v_9, .int tr, .int v_10, .int v_11, .int sd])), (z0, .inr (6, [.ref zl, .ref zs, .int v_5, .int v_6, .int v_7])), (zl, .inl (cZ, 40, .inl g_1)), (zs, .inl (cI, 40, .inl g_2)), (jp, .inl (cP, 8, .inr (.inr (.inr (.inr g_4))))), (jc, .inl (cI, 3, .inl g_3))] H := by rw [hg_1, hg_2, hg_3, hg_4, hv_5, hv_6, hv_7, hv_8, hv_9, hv_10, hv_11]; exact hP
  replace hD : va_D (va_A [(rd, .inr (3, [.ref ri, .ref rl, .int rz, .int rc, .int rp, .int rf, .int rt, .int ru])), (ri, .inl (cI, 132, .inl fi)), (j0, .inr (0, [.ref z0, .ref jp, .ref jc, .int cn, .int de, .int tr, .int se, .int hu, .int sd])), (z0, .inr (6, [.ref zl, .ref zs, .int sz, .int at_, .int gp])), (zl, .inl (cZ, 40, .inl fl)), (zs, .inl (cI, 40, .inl fs)), (jp, .inl (cP, 8, .inr (.inr (.inr (.inr fp))))), (jc, .inl (cI, 3, .inl fc))] s.heap.size) [(rd, .inr (3, [.ref ri, .ref rl, .int rz, .int rc, .int rp, .int rf, .int rt, .int ru])), (ri, .inl (cI, 132, .inl fi)), (j0, .inr (0, [.ref z0, .ref jp, .ref jc, .int v_8, .int v_9, .int tr, .int v_10, .int v_11, .int sd])), (z0, .inr (6, [.ref zl, .ref zs, .int v_5, .int v_6, .int v_7])), (zl, .inl (cZ, 40, .inl g_1)), (zs, .inl (cI, 40, .inl g_2)), (jp, .inl (cP, 8, .inr (.inr (.inr (.inr g_4))))), (jc, .inl (cI, 3, .inl g_3))] := by rw [hg_1, hg_2, hg_3, hg_4, hv_5, hv_6, hv_7, hv_8, hv_9, hv_10, hv_11]; exact hD
  obtain ⟨g_12, hg_12⟩ : ∃ g : Nat → Int32, g = kf := ⟨_, rfl⟩
  obtain ⟨g_13, hg_13⟩ : ∃ g : Nat → Int32, g = af := ⟨_, rfl⟩
  obtain ⟨g_14, hg_14⟩ : ∃ g : Nat → Int32, g = tf := ⟨_, rfl⟩
  obtain ⟨tl, htl⟩ : ∃ z : List (Nat × Int32 × Int32 × Int32), z = [] := ⟨_, rfl⟩
  replace hP : va_P D vwCl ([(rd, .inr (3, [.ref ri, .ref rl, .int rz, .int rc, .int rp, .int rf, .int rt, .int ru])), (ri, .inl (cI, 132, .inl fi)), (j0, .inr (0, [.ref z0, .ref jp, .ref jc, .int v_8, .int v_9, .int tr, .int v_10, .int v_11, .int sd])), (z0, .inr (6, [.ref zl, .ref zs, .int v_5, .int v_6, .int v_7])), (zl, .inl (cZ, 40, .inl g_1)), (zs, .inl (cI, 40, .inl g_2)), (jp, .inl (cP, 8, .inr (.inr (.inr (.inr g_4))))), (jc, .inl (cI, 3, .inl g_3))] ++ (tl.map zPo)) H := by rw [htl]; exact hP
  replace hD : va_D (va_A [(rd, .inr (3, [.ref ri, .ref rl, .int rz, .int rc, .int rp, .int rf, .int rt, .int ru])), (ri, .inl (cI, 132, .inl fi)), (j0, .inr (0, [.ref z0, .ref jp, .ref jc, .int cn, .int de, .int tr, .int se, .int hu, .int sd])), (z0, .inr (6, [.ref zl, .ref zs, .int sz, .int at_, .int gp])), (zl, .inl (cZ, 40, .inl fl)), (zs, .inl (cI, 40, .inl fs)), (jp, .inl (cP, 8, .inr (.inr (.inr (.inr fp))))), (jc, .inl (cI, 3, .inl fc))] s.heap.size) ([(rd, .inr (3, [.ref ri, .ref rl, .int rz, .int rc, .int rp, .int rf, .int rt, .int ru])), (ri, .inl (cI, 132, .inl fi)), (j0, .inr (0, [.ref z0, .ref jp, .ref jc, .int v_8, .int v_9, .int tr, .int v_10, .int v_11, .int sd])), (z0, .inr (6, [.ref zl, .ref zs, .int v_5, .int v_6, .int v_7])), (zl, .inl (cZ, 40, .inl g_1)), (zs, .inl (cI, 40, .inl g_2)), (jp, .inl (cP, 8, .inr (.inr (.inr (.inr g_4))))), (jc, .inl (cI, 3, .inl g_3))] ++ (tl.map zPo)) := by rw [htl]; exact hD
  have htp : ∀ z ∈ tl, zPr z.2.1 z.2.2.1 z.2.2.2 := by rw [htl]; intro z hz; simp at hz
  refine zcells (fun kc ks hkc hks => ?_)
  have hkc1 : (kc : Int) ≤ i_2.toInt := by omega
  have hks1 : (ks : Int) ≤ 3 * i_2.toInt := by omega
  have hvi_2_0 : zExt tl fp cn kf af tf g_4 (v_8 : Int32) g_12 g_13 g_14 := by
    (try rw [hi_2]); (try rw [hg_1]); (try rw [hg_2]); (try rw [hg_3]); (try rw [hg_4]); (try rw [hv_5]); (try rw [hv_6]); (try rw [hv_7]); (try rw [hv_8]); (try rw [hv_9]); (try rw [hv_10]); (try rw [hv_11]); (try rw [hg_12]); (try rw [hg_13]); (try rw [hg_14]); (try rw [htl]); exact zExt.refl
  have hvi_2_1 : i_2.toInt ≤ rc.toInt := by
    (try rw [hi_2]); (try rw [hg_1]); (try rw [hg_2]); (try rw [hg_3]); (try rw [hg_4]); (try rw [hv_5]); (try rw [hv_6]); (try rw [hv_7]); (try rw [hv_8]); (try rw [hv_9]); (try rw [hv_10]); (try rw [hv_11]); (try rw [hg_12]); (try rw [hg_13]); (try rw [hg_14]); (try rw [htl]); first | omega | (simp; omega)
  have hvi_2_2 : (v_8 : Int32).toInt = cn.toInt + zCP fi i_2.toInt.toNat := by
    (try rw [hi_2]); (try rw [hg_1]); (try rw [hg_2]); (try rw [hg_3]); (try rw [hg_4]); (try rw [hv_5]); (try rw [hv_6]); (try rw [hv_7]); (try rw [hv_8]); (try rw [hv_9]); (try rw [hv_10]); (try rw [hv_11]); (try rw [hg_12]); (try rw [hg_13]); (try rw [hg_14]); (try rw [htl]); (rw [show ((0 : Int32).toInt.toNat) = 0 from by decide]; first | (unfold zCP; omega) | (simp [zCP]; done) | (simp [zCP]; omega))
  have hvi_2_3 : (v_5 : Int32).toInt = zLT fi sz.toInt i_2.toInt.toNat := by
    (try rw [hi_2]); (try rw [hg_1]); (try rw [hg_2]); (try rw [hg_3]); (try rw [hg_4]); (try rw [hv_5]); (try rw [hv_6]); (try rw [hv_7]); (try rw [hv_8]); (try rw [hv_9]); (try rw [hv_10]); (try rw [hv_11]); (try rw [hg_12]); (try rw [hg_13]); (try rw [hg_14]); (try rw [htl]); (rw [show ((0 : Int32).toInt.toNat) = 0 from by decide]; rfl)
  have hvi_2_4 : (∀ j : Nat, j < 40 → g_1 j = zRl (zDF fi) fl i_2.toInt.toNat j) := by
    (try rw [hi_2]); (try rw [hg_1]); (try rw [hg_2]); (try rw [hg_3]); (try rw [hg_4]); (try rw [hv_5]); (try rw [hv_6]); (try rw [hv_7]); (try rw [hv_8]); (try rw [hv_9]); (try rw [hv_10]); (try rw [hv_11]); (try rw [hg_12]); (try rw [hg_13]); (try rw [hg_14]); (try rw [htl]); (intro j hj; rw [(show ((0 : Int32).toInt.toNat) = 0 from by decide)]; rfl)
  have hvi_2_5 : (∀ j : Nat, j < 40 → g_2 j = zRs (zDF fi) fs i_2.toInt.toNat j) := by
    (try rw [hi_2]); (try rw [hg_1]); (try rw [hg_2]); (try rw [hg_3]); (try rw [hg_4]); (try rw [hv_5]); (try rw [hv_6]); (try rw [hv_7]); (try rw [hv_8]); (try rw [hv_9]); (try rw [hv_10]); (try rw [hv_11]); (try rw [hg_12]); (try rw [hg_13]); (try rw [hg_14]); (try rw [htl]); (intro j hj; rw [(show ((0 : Int32).toInt.toNat) = 0 from by decide)]; rfl)
  have hvi_2_6 : (g_12 = zRk (zDF fi) cn.toInt kf i_2.toInt.toNat ∧ g_13 = zRa (zDF fi) cn.toInt af i_2.toInt.toNat ∧ g_14 = zRt (zDF fi) cn.toInt tf i_2.toInt.toNat) := by
    (try rw [hi_2]); (try rw [hg_1]); (try rw [hg_2]); (try rw [hg_3]); (try rw [hg_4]); (try rw [hv_5]); (try rw [hv_6]); (try rw [hv_7]); (try rw [hv_8]); (try rw [hv_9]); (try rw [hv_10]); (try rw [hv_11]); (try rw [hg_12]); (try rw [hg_13]); (try rw [hg_14]); (try rw [htl]); (rw [(show ((0 : Int32).toInt.toNat) = 0 from by decide)]; exact ⟨rfl, rfl, rfl⟩)
  have hvi_2_7 : g_3 = zRc (zDF fi) fc i_2.toInt.toNat := by
    (try rw [hi_2]); (try rw [hg_1]); (try rw [hg_2]); (try rw [hg_3]); (try rw [hg_4]); (try rw [hv_5]); (try rw [hv_6]); (try rw [hv_7]); (try rw [hv_8]); (try rw [hv_9]); (try rw [hv_10]); (try rw [hv_11]); (try rw [hg_12]); (try rw [hg_13]); (try rw [hg_14]); (try rw [htl]); (rw [(show ((0 : Int32).toInt.toNat) = 0 from by decide)]; rfl)
  have hvi_2_8 : ((v_9 : Int32).toInt = zRn 4 (zDF fi) de.toInt i_2.toInt.toNat ∧ (v_10 : Int32).toInt = zRn 5 (zDF fi) se.toInt i_2.toInt.toNat ∧ (v_11 : Int32).toInt = zRn 6 (zDF fi) hu.toInt i_2.toInt.toNat ∧ (v_7 : Int32).toInt = zRn 7 (zDF fi) gp.toInt i_2.toInt.toNat ∧ (v_6 : Int32).toInt = zRat (zDF fi) at_.toInt i_2.toInt.toNat) := by
    (try rw [hi_2]); (try rw [hg_1]); (try rw [hg_2]); (try rw [hg_3]); (try rw [hg_4]); (try rw [hv_5]); (try rw [hv_6]); (try rw [hv_7]); (try rw [hv_8]); (try rw [hv_9]); (try rw [hv_10]); (try rw [hv_11]); (try rw [hg_12]); (try rw [hg_13]); (try rw [hg_14]); (try rw [htl]); (rw [(show ((0 : Int32).toInt.toNat) = 0 from by decide)]; exact ⟨rfl, rfl, rfl, rfl, rfl⟩)
  clear h1i_2 hi_2 hg_1 hg_2 hg_3 hg_4 hv_5 hv_6 hv_7 hv_8 hv_9 hv_10 hv_11 hg_12 hg_13 hg_14 htl hkc hks
  skip
  revert hni_2
  revert hloi_2
  revert hvi_2_8
  revert hvi_2_7
  revert hvi_2_6
  revert hvi_2_5
  revert hvi_2_4
  revert hvi_2_3
  revert hvi_2_2
  revert hvi_2_1
  revert hvi_2_0
  revert hbv_11
  revert hbv_9
  revert hbv_8
  revert hbv_7
  revert hbv_6
  revert hbv_5
  revert hpg_3
  revert hpg_2
  revert hpg_1
  revert hks1
  revert hkc1
  revert htp
  revert hl
  revert hS
  revert hD
  revert hP
  revert ls
  revert ks
  revert kc
  revert tl
  revert locs
  revert H
  revert g_1
  revert g_2
  revert g_3
  revert g_4
  revert v_5
  revert v_6
  revert v_7
  revert v_8
  revert v_9
  revert v_10
  revert v_11
  revert g_12
  revert g_13
  revert g_14
  revert i_2
  induction nfu with
  | zero =>
    intro i_2 g_14 g_13 g_12 v_11 v_10 v_9 v_8 v_7 v_6 v_5 g_4 g_3 g_2 g_1 H locs tl kc ks ls hP hD hS hl htp hkc1 hks1 hpg_1 hpg_2 hpg_3 hbv_5 hbv_6 hbv_7 hbv_8 hbv_9 hbv_11 hvi_2_0 hvi_2_1 hvi_2_2 hvi_2_3 hvi_2_4 hvi_2_5 hvi_2_6 hvi_2_7 hvi_2_8 hloi_2 hni_2
    have hzi_2 : rc.toInt ≤ i_2.toInt := by omega
    refine lv_iload_n hx hb dX3_tell_2 rfl (lv_at hl 0 rfl) ?_
    refine lv_aload_n hx hb dX3_tell_3 rfl (lv_at hl 1 rfl) ?_
    refine va_get (D := D) (ci := 3) (v := .int rc) (C := RX3) (T := TX3) (N := 8) hx hb hts hi_X3_tell_3 hown hK hP 0 rfl rfl 3 (by decide) (hts (.fieldLink RX3 22 "TheLiningsInIt$Reader" "count" "I") (List.mem_of_getElem? (i := 1) rfl)) (fun _ h9 => h9) rfl dX3_tell_4 ?_
    refine lv_icmp_ge (tgt := 24) hx hb dX3_tell_7 (by decide) (fun c_15 => ?_) (fun c_15 => ?_)
    · have fc_15 : rc.toInt ≤ i_2.toInt := zf_le c_15 rfl rfl
      refine W.widen (k := 40) (n := 120) (by omega) (by omega) ?_
      exact W.vret hx hb hr (fun t ht hW => ⟨⟨(v_9, v_10, v_11, v_5, v_6, v_7, g_1, g_2, g_3, v_8, g_4, g_12, g_13, g_14, tl), rfl, ⟨(show 0 ≤ v_9.toInt ∧ v_9.toInt ≤ 24 from hbv_9), (show 0 ≤ v_11.toInt ∧ v_11.toInt ≤ 9 from hbv_11), (show 4 ≤ v_5.toInt ∧ v_5.toInt ≤ 40 from hbv_5), (show 0 ≤ v_6.toInt ∧ v_6.toInt ≤ 40 from hbv_6), (show 1 ≤ v_7.toInt ∧ v_7.toInt ≤ 9 from hbv_7), hpg_1, hpg_2, hpg_3, (show 0 ≤ v_8.toInt ∧ v_8.toInt ≤ 8 from hbv_8), htp, (show zExt tl fp cn kf af tf g_4 v_8 g_12 g_13 g_14 from by assumption), (show v_8.toInt = cn.toInt + zCP fi rc.toInt.toNat from by (have h9 : i_2.toInt.toNat = rc.toInt.toNat := (by omega); have z := hvi_2_2; rw [h9] at z; exact z)), (show v_5.toInt = zLT fi sz.toInt rc.toInt.toNat from by (have h9 : i_2.toInt.toNat = rc.toInt.toNat := (by omega); have z := hvi_2_3; rw [h9] at z; exact z)), (show (∀ j : Nat, j < 40 → g_1 j = zRl (zDF fi) fl rc.toInt.toNat j) from by (have h9 : i_2.toInt.toNat = rc.toInt.toNat := (by omega); have z := hvi_2_4; rw [h9] at z; exact z)), (show (∀ j : Nat, j < 40 → g_2 j = zRs (zDF fi) fs rc.toInt.toNat j) from by (have h9 : i_2.toInt.toNat = rc.toInt.toNat := (by omega); have z := hvi_2_5; rw [h9] at z; exact z)), (show (g_12 = zRk (zDF fi) cn.toInt kf rc.toInt.toNat ∧ g_13 = zRa (zDF fi) cn.toInt af rc.toInt.toNat ∧ g_14 = zRt (zDF fi) cn.toInt tf rc.toInt.toNat) from by (have h9 : i_2.toInt.toNat = rc.toInt.toNat := (by omega); have z := hvi_2_6; rw [h9] at z; exact z)), (show g_3 = zRc (zDF fi) fc rc.toInt.toNat from by (have h9 : i_2.toInt.toNat = rc.toInt.toNat := (by omega); have z := hvi_2_7; rw [h9] at z; exact z)), (show (v_9.toInt = zRn 4 (zDF fi) de.toInt rc.toInt.toNat ∧ v_10.toInt = zRn 5 (zDF fi) se.toInt rc.toInt.toNat ∧ v_11.toInt = zRn 6 (zDF fi) hu.toInt rc.toInt.toNat ∧ v_7.toInt = zRn 7 (zDF fi) gp.toInt rc.toInt.toNat ∧ v_6.toInt = zRat (zDF fi) at_.toInt rc.toInt.toNat) from by (have h9 : i_2.toInt.toNat = rc.toInt.toNat := (by omega); have z := hvi_2_8; rw [h9] at z; exact z)), trivial⟩, by rw [ht]; exact hP.part (cx := [(rd, .inr (3, [.ref ri, .ref rl, .int rz, .int rc, .int rp, .int rf, .int rt, .int ru])), (ri, .inl (cI, 132, .inl fi)), (j0, .inr (0, [.ref z0, .ref jp, .ref jc, .int v_8, .int v_9, .int tr, .int v_10, .int v_11, .int sd])), (z0, .inr (6, [.ref zl, .ref zs, .int v_5, .int v_6, .int v_7])), (zl, .inl (cZ, 40, .inl g_1)), (zs, .inl (cI, 40, .inl g_2)), (jp, .inl (cP, 8, .inr (.inr (.inr (.inr g_4))))), (jc, .inl (cI, 3, .inl g_3))]) (pl := (tl.map zPo)) [0, 1, 2, 3, 4, 5, 6, 7] rfl, hD.part (cx := [(rd, .inr (3, [.ref ri, .ref rl, .int rz, .int rc, .int rp, .int rf, .int rt, .int ru])), (ri, .inl (cI, 132, .inl fi)), (j0, .inr (0, [.ref z0, .ref jp, .ref jc, .int v_8, .int v_9, .int tr, .int v_10, .int v_11, .int sd])), (z0, .inr (6, [.ref zl, .ref zs, .int v_5, .int v_6, .int v_7])), (zl, .inl (cZ, 40, .inl g_1)), (zs, .inl (cI, 40, .inl g_2)), (jp, .inl (cP, 8, .inr (.inr (.inr (.inr g_4))))), (jc, .inl (cI, 3, .inl g_3))]) (pl := (tl.map zPo)) [0, 1, 2, 3, 4, 5, 6, 7] (by decide) rfl⟩, hS.F ht⟩) hS.2.2 dX3_tell_24
    · exfalso; have fc_15 : i_2.toInt < rc.toInt := zf_nle c_15 rfl rfl; omega
  | succ nfu ih =>
    intro i_2 g_14 g_13 g_12 v_11 v_10 v_9 v_8 v_7 v_6 v_5 g_4 g_3 g_2 g_1 H locs tl kc ks ls hP hD hS hl htp hkc1 hks1 hpg_1 hpg_2 hpg_3 hbv_5 hbv_6 hbv_7 hbv_8 hbv_9 hbv_11 hvi_2_0 hvi_2_1 hvi_2_2 hvi_2_3 hvi_2_4 hvi_2_5 hvi_2_6 hvi_2_7 hvi_2_8 hloi_2 hni_2
    refine lv_iload_n hx hb dX3_tell_2 rfl (lv_at hl 0 rfl) ?_
    refine lv_aload_n hx hb dX3_tell_3 rfl (lv_at hl 1 rfl) ?_
    refine va_get (D := D) (ci := 3) (v := .int rc) (C := RX3) (T := TX3) (N := 8) hx hb hts hi_X3_tell_3 hown hK hP 0 rfl rfl 3 (by decide) (hts (.fieldLink RX3 22 "TheLiningsInIt$Reader" "count" "I") (List.mem_of_getElem? (i := 1) rfl)) (fun _ h9 => h9) rfl dX3_tell_4 ?_
    refine lv_icmp_ge (tgt := 24) hx hb dX3_tell_7 (by decide) (fun c_16 => ?_) (fun c_16 => ?_)
    · have fc_16 : rc.toInt ≤ i_2.toInt := zf_le c_16 rfl rfl
      refine W.widen (k := 40) (n := 120) (by omega) (by omega) ?_
      exact W.vret hx hb hr (fun t ht hW => ⟨⟨(v_9, v_10, v_11, v_5, v_6, v_7, g_1, g_2, g_3, v_8, g_4, g_12, g_13, g_14, tl), rfl, ⟨(show 0 ≤ v_9.toInt ∧ v_9.toInt ≤ 24 from hbv_9), (show 0 ≤ v_11.toInt ∧ v_11.toInt ≤ 9 from hbv_11), (show 4 ≤ v_5.toInt ∧ v_5.toInt ≤ 40 from hbv_5), (show 0 ≤ v_6.toInt ∧ v_6.toInt ≤ 40 from hbv_6), (show 1 ≤ v_7.toInt ∧ v_7.toInt ≤ 9 from hbv_7), hpg_1, hpg_2, hpg_3, (show 0 ≤ v_8.toInt ∧ v_8.toInt ≤ 8 from hbv_8), htp, (show zExt tl fp cn kf af tf g_4 v_8 g_12 g_13 g_14 from by assumption), (show v_8.toInt = cn.toInt + zCP fi rc.toInt.toNat from by (have h9 : i_2.toInt.toNat = rc.toInt.toNat := (by omega); have z := hvi_2_2; rw [h9] at z; exact z)), (show v_5.toInt = zLT fi sz.toInt rc.toInt.toNat from by (have h9 : i_2.toInt.toNat = rc.toInt.toNat := (by omega); have z := hvi_2_3; rw [h9] at z; exact z)), (show (∀ j : Nat, j < 40 → g_1 j = zRl (zDF fi) fl rc.toInt.toNat j) from by (have h9 : i_2.toInt.toNat = rc.toInt.toNat := (by omega); have z := hvi_2_4; rw [h9] at z; exact z)), (show (∀ j : Nat, j < 40 → g_2 j = zRs (zDF fi) fs rc.toInt.toNat j) from by (have h9 : i_2.toInt.toNat = rc.toInt.toNat := (by omega); have z := hvi_2_5; rw [h9] at z; exact z)), (show (g_12 = zRk (zDF fi) cn.toInt kf rc.toInt.toNat ∧ g_13 = zRa (zDF fi) cn.toInt af rc.toInt.toNat ∧ g_14 = zRt (zDF fi) cn.toInt tf rc.toInt.toNat) from by (have h9 : i_2.toInt.toNat = rc.toInt.toNat := (by omega); have z := hvi_2_6; rw [h9] at z; exact z)), (show g_3 = zRc (zDF fi) fc rc.toInt.toNat from by (have h9 : i_2.toInt.toNat = rc.toInt.toNat := (by omega); have z := hvi_2_7; rw [h9] at z; exact z)), (show (v_9.toInt = zRn 4 (zDF fi) de.toInt rc.toInt.toNat ∧ v_10.toInt = zRn 5 (zDF fi) se.toInt rc.toInt.toNat ∧ v_11.toInt = zRn 6 (zDF fi) hu.toInt rc.toInt.toNat ∧ v_7.toInt = zRn 7 (zDF fi) gp.toInt rc.toInt.toNat ∧ v_6.toInt = zRat (zDF fi) at_.toInt rc.toInt.toNat) from by (have h9 : i_2.toInt.toNat = rc.toInt.toNat := (by omega); have z := hvi_2_8; rw [h9] at z; exact z)), trivial⟩, by rw [ht]; exact hP.part (cx := [(rd, .inr (3, [.ref ri, .ref rl, .int rz, .int rc, .int rp, .int rf, .int rt, .int ru])), (ri, .inl (cI, 132, .inl fi)), (j0, .inr (0, [.ref z0, .ref jp, .ref jc, .int v_8, .int v_9, .int tr, .int v_10, .int v_11, .int sd])), (z0, .inr (6, [.ref zl, .ref zs, .int v_5, .int v_6, .int v_7])), (zl, .inl (cZ, 40, .inl g_1)), (zs, .inl (cI, 40, .inl g_2)), (jp, .inl (cP, 8, .inr (.inr (.inr (.inr g_4))))), (jc, .inl (cI, 3, .inl g_3))]) (pl := (tl.map zPo)) [0, 1, 2, 3, 4, 5, 6, 7] rfl, hD.part (cx := [(rd, .inr (3, [.ref ri, .ref rl, .int rz, .int rc, .int rp, .int rf, .int rt, .int ru])), (ri, .inl (cI, 132, .inl fi)), (j0, .inr (0, [.ref z0, .ref jp, .ref jc, .int v_8, .int v_9, .int tr, .int v_10, .int v_11, .int sd])), (z0, .inr (6, [.ref zl, .ref zs, .int v_5, .int v_6, .int v_7])), (zl, .inl (cZ, 40, .inl g_1)), (zs, .inl (cI, 40, .inl g_2)), (jp, .inl (cP, 8, .inr (.inr (.inr (.inr g_4))))), (jc, .inl (cI, 3, .inl g_3))]) (pl := (tl.map zPo)) [0, 1, 2, 3, 4, 5, 6, 7] (by decide) rfl⟩, hS.F ht⟩) hS.2.2 dX3_tell_24
    · have fc_16 : i_2.toInt < rc.toInt := zf_nle c_16 rfl rfl
      refine lv_aload_n hx hb dX3_tell_10 rfl (lv_at hl 1 rfl) ?_
      refine lv_aload_n hx hb dX3_tell_11 rfl (lv_at hl 2 rfl) ?_
      refine lv_iload_n hx hb dX3_tell_12 rfl (lv_at hl 0 rfl) ?_
      refine lv_iconst (v := 4) hx hb dX3_tell_13 (by decide) ?_
      refine lv_imul hx hb dX3_tell_14 ?_
      refine lv_topi (fun x_17 ex_17 => ?_)
      have qx_17 : x_17.toInt = i_2.toInt * 4 := by rw [ex_17]; exact zf_mul rfl (by decide) (by omega) (by omega)
      skip
      refine zt_Vv (As := [.ref j0, .int x_17]) (rest := []) (ws := [(rd, .inr (3, [.ref ri, .ref rl, .int rz, .int rc, .int rp, .int rf, .int rt, .int ru])), (ri, .inl (cI, 132, .inl fi)), (j0, .inr (0, [.ref z0, .ref jp, .ref jc, .int v_8, .int v_9, .int tr, .int v_10, .int v_11, .int sd])), (z0, .inr (6, [.ref zl, .ref zs, .int v_5, .int v_6, .int v_7])), (zl, .inl (cZ, 40, .inl g_1)), (zs, .inl (cI, 40, .inl g_2)), (jp, .inl (cP, 8, .inr (.inr (.inr (.inr g_4))))), (jc, .inl (cI, 3, .inl g_3))]) (wr := []) ⟨hx, hb, hml, hown, hts⟩ (c_F_R_tellItem l D cI cJ cZ cP cS po rd ri rl (rz) (rc) (rp) (rf) (rt) (ru) fi j0 jp jc z0 zl zs (v_8) (v_9) (tr) (v_10) (v_11) (sd) (v_5) (v_6) (v_7) g_1 g_2 g_4 g_12 g_13 g_14 g_3 (x_17) hy0 hy1 hy2 hy3 hy4 hy5 (by omega) hy7 hy8 hy9 hy10 hy11 hy12 hbv_8.1 hbv_8.2 hbv_9.1 hbv_9.2 hbv_11.1 hbv_11.2 hbv_5.1 hbv_5.2 hbv_6.1 hbv_6.2 hbv_7.1 hbv_7.2 (by omega) (by omega) (by have z := hits i_2.toInt.toNat (by omega); rw [show 4 * i_2.toInt.toNat = x_17.toInt.toNat from by omega] at z; exact z) hpg_1 hpg_2 hpg_3 H.size) (cwV 2 hts gX3_tell_X3_tellItem rfl rfl rfl ⟨rfl, dh_X3_tellItem⟩ ⟨Nat.le_of_ble_eq_true rfl, Nat.le_of_ble_eq_true rfl⟩) hK hN hP hD hS hA [0, 1, 2, 3, 4, 5, 6, 7] [] rfl rfl (by decide) (by decide) (by decide) ((hZ.kept hS).narrow (zt_free hD hS hA (ws := [(rd, .inr (3, [.ref ri, .ref rl, .int rz, .int rc, .int rp, .int rf, .int rt, .int ru])), (ri, .inl (cI, 132, .inl fi)), (j0, .inr (0, [.ref z0, .ref jp, .ref jc, .int v_8, .int v_9, .int tr, .int v_10, .int v_11, .int sd])), (z0, .inr (6, [.ref zl, .ref zs, .int v_5, .int v_6, .int v_7])), (zl, .inl (cZ, 40, .inl g_1)), (zs, .inl (cI, 40, .inl g_2)), (jp, .inl (cP, 8, .inr (.inr (.inr (.inr g_4))))), (jc, .inl (cI, 3, .inl g_3))]) (isC := [0, 1, 2, 3, 4, 5, 6, 7]) rfl)) (va_recv (q := (RX3, TX3, 8)) hK hP (ci := 3) (q0 := 0) rfl rfl) rfl hl.1 rfl (Nat.le_of_ble_eq_true rfl) dX3_tell_15 ⟨by (show kc + 1 ≤ 40; omega), by (show ks + 3 ≤ 120; omega)⟩ (fun u_19 H locs hr_18 hP hD hS => ?_)
      obtain ⟨q_20, q_21, q_22, q_23, q_24, q_25, q_26, q_27, q_28, q_29, q_30, q_31, q_32, q_33, q_34⟩ := u_19
      try dsimp only at hr_18
      obtain ⟨hbq_20, hbq_22, hbq_23, hbq_24, hbq_25, hpq_26, hpq_27, hpq_28, hbq_29, hnpq_34, hsr_18_0, hsr_18_1, hsr_18_2, hsr_18_3, hsr_18_4, hsr_18_5, hsr_18_6, hr_18⟩ := hr_18
      have hnqq_34 : ∀ z ∈ q_34 ++ tl, zPr z.2.1 z.2.2.1 z.2.2.2 := fun z hz => (List.mem_append.mp hz).elim (hnpq_34 z) (htp z)
      rw [zT_app] at hP hD
      have h9R := zRe (ws' := ([(rd, .inr (3, [.ref ri, .ref rl, .int rz, .int rc, .int rp, .int rf, .int rt, .int ru])), (ri, .inl (cI, 132, .inl fi)), (j0, .inr (0, [.ref z0, .ref jp, .ref jc, .int q_29, .int q_20, .int tr, .int q_21, .int q_22, .int sd])), (z0, .inr (6, [.ref zl, .ref zs, .int q_23, .int q_24, .int q_25])), (zl, .inl (cZ, 40, .inl q_26)), (zs, .inl (cI, 40, .inl q_27)), (jp, .inl (cP, 8, .inr (.inr (.inr (.inr q_30))))), (jc, .inl (cI, 3, .inl q_28))] ++ ((q_34 ++ tl).map zPo))) hP hD rfl
      clear hP hD
      obtain ⟨hP, hD⟩ := h9R
      obtain ⟨x_35, ex_35⟩ : ∃ y : Int32, y = i_2 + 1 := ⟨_, rfl⟩
      have qx_35 : x_35.toInt = i_2.toInt + 1 := dw_inc ex_35 fc_16
      refine lv_iinc (v := x_35) (lv' := [(2, .int x_35), (0, .ref rd), (1, .ref j0)]) hx hb dX3_tell_18 hl (k := 0) rfl ex_35.symm (by decide) rfl (fun ls hl => ?_)
      refine lv_goto (tgt := 2) hx hb dX3_tell_21 (by decide) ?_
      exact ih x_35 q_33 q_32 q_31 (q_22) (q_21) (q_20) (q_29) (q_25) (q_24) (q_23) (q_30) (q_28) (q_27) (q_26) _ _ (q_34 ++ tl) _ _ _ (hP.part [0, 1, 2, 3, 4, 5, 6, 7] rfl) (hD.part [0, 1, 2, 3, 4, 5, 6, 7] (by decide) rfl) hS (lv_sub hl [0, 1, 2] rfl) hnqq_34 (by omega) (by omega) hpq_26 hpq_27 hpq_28 hbq_23 hbq_24 hbq_25 hbq_29 hbq_20 hbq_22 (show zExt (q_34 ++ tl) fp cn kf af tf q_30 (q_29 : Int32) q_31 q_32 q_33 from by exact hvi_2_0.trans hsr_18_0) (show x_35.toInt ≤ rc.toInt from by omega) (show (q_29 : Int32).toInt = cn.toInt + zCP fi x_35.toInt.toNat from by (have z := hsr_18_1; have e4 : x_17.toInt.toNat = 4 * i_2.toInt.toNat := (by omega); rw [e4] at z; have hc := hvi_2_2; exact zCP_S (g := fi) (n := i_2.toInt.toNat) (i := i_2.toInt) (by omega) (by omega) (fun _ _ => rfl) hc (fun h => z.1 h (by have z2 := zCP_le hcp (n := i_2.toInt.toNat) (by omega) h; omega)) z.2.1)) (show (q_23 : Int32).toInt = zLT fi sz.toInt x_35.toInt.toNat from by (have z := hsr_18_1; have e4 : x_17.toInt.toNat = 4 * i_2.toInt.toNat := (by omega); rw [e4] at z; exact zLT_S (g := fi) (n := i_2.toInt.toNat) (i := i_2.toInt) (by omega) (by omega) (fun _ _ => rfl) hvi_2_3 z.2.2.1 z.2.2.2)) (show (∀ j : Nat, j < 40 → q_26 j = zRl (zDF fi) fl x_35.toInt.toNat j) from by (have e4 : x_17.toInt.toNat = 4 * i_2.toInt.toNat := (by omega); have z := hsr_18_2; rw [e4] at z; rw [show x_35.toInt.toNat = i_2.toInt.toNat + 1 from by omega]; intro j hj; rw [z j hj]; exact zEl_sm zSm.rfl hvi_2_4 j hj)) (show (∀ j : Nat, j < 40 → q_27 j = zRs (zDF fi) fs x_35.toInt.toNat j) from by (have e4 : x_17.toInt.toNat = 4 * i_2.toInt.toNat := (by omega); have z := hsr_18_3; rw [e4] at z; rw [show x_35.toInt.toNat = i_2.toInt.toNat + 1 from by omega]; intro j hj; rw [z j hj]; exact zEs_sm zSm.rfl hvi_2_5 j hj)) (show (q_31 = zRk (zDF fi) cn.toInt kf x_35.toInt.toNat ∧ q_32 = zRa (zDF fi) cn.toInt af x_35.toInt.toNat ∧ q_33 = zRt (zDF fi) cn.toInt tf x_35.toInt.toNat) from by (have e4 : x_17.toInt.toNat = 4 * i_2.toInt.toNat := (by omega); have z := hsr_18_4; rw [e4] at z; have hc := hvi_2_2; obtain ⟨z1, z2, z3⟩ := z (fun h => by (have z2 := zCP_le hcp (n := i_2.toInt.toNat) (by omega) h; omega)); rw [show x_35.toInt.toNat = i_2.toInt.toNat + 1 from by omega]; obtain ⟨y1, y2, y3⟩ := hvi_2_6; have hq : zNp (zDF fi) cn.toInt i_2.toInt.toNat = v_8.toInt := (by rw [zNp_CP, hc]); refine ⟨?_, ?_, ?_⟩; (rw [z1, y1, ← hq]; rfl); (rw [z2, y2, ← hq]; rfl); (rw [z3, y3, ← hq]; rfl))) (show q_28 = zRc (zDF fi) fc x_35.toInt.toNat from by (have e4 : x_17.toInt.toNat = 4 * i_2.toInt.toNat := (by omega); have z := hsr_18_5; rw [e4] at z; rw [show x_35.toInt.toNat = i_2.toInt.toNat + 1 from by omega]; rw [z, hvi_2_7]; rfl)) (show ((q_20 : Int32).toInt = zRn 4 (zDF fi) de.toInt x_35.toInt.toNat ∧ (q_21 : Int32).toInt = zRn 5 (zDF fi) se.toInt x_35.toInt.toNat ∧ (q_22 : Int32).toInt = zRn 6 (zDF fi) hu.toInt x_35.toInt.toNat ∧ (q_25 : Int32).toInt = zRn 7 (zDF fi) gp.toInt x_35.toInt.toNat ∧ (q_24 : Int32).toInt = zRat (zDF fi) at_.toInt x_35.toInt.toNat) from by (have e4 : x_17.toInt.toNat = 4 * i_2.toInt.toNat := (by omega); have z := hsr_18_6; rw [e4] at z; rw [show x_35.toInt.toNat = i_2.toInt.toNat + 1 from by omega]; obtain ⟨z1, z2, z3, z4, z5⟩ := z; obtain ⟨y1, y2, y3, y4, y5⟩ := hvi_2_8; refine ⟨?_, ?_, ?_, ?_, ?_⟩; (rw [z1, y1]; rfl); (rw [z2, y2]; rfl); (rw [z3, y3]; rfl); (rw [z4, y4]; rfl); (rw [z5, y5]; rfl))) (dw_lo hloi_2 qx_35) (dw_hn hni_2 qx_35)
set_option maxHeartbeats 4000000 in
set_option maxRecDepth 100000 in
theorem c_F_X_jacket (l : Launch) (D : va_G) (cI cJ cZ cP cS : ClassId) (po : zPool) (x0 xs j0 k0 w0 rd mv xr : Nat) (im lf : Int32) (fr : Nat → Int32) (fh : Nat → Option Nat) (s_ : Int32) (h0 e0 : Nat) (he si : Int32) (fe : Nat → Int64) (ri rl : Nat) (rz rc rp rf rt ru : Int32) (fle : Nat → Int32) (fi : Nat → Int32) (j0 jp jc z0 zl zs : Nat) (cn de tr se hu sd : Int32) (sz at_ gp : Int32) (fl fs : Nat → Int32) (fp : Nat → Option Nat) (kf af tf : Nat → Int32) (fc : Nat → Int32) (hy0 : 0 ≤ im.toInt) (hy1 : im.toInt ≤ 1) (hy2 : (-1) ≤ lf.toInt) (hy3 : lf.toInt ≤ 160) (hy4 : (-1) ≤ he.toInt) (hy5 : he.toInt ≤ 103) (hy6 : 0 ≤ si.toInt) (hy7 : si.toInt ≤ 160) (hfs : 0 ≤ s_.toInt → s_.toInt ≤ 7 → fh s_.toNatClampNeg = some h0) (hy9 : 0 ≤ rz.toInt) (hy10 : rz.toInt ≤ 160) (hy11 : 0 ≤ rc.toInt) (hy12 : rc.toInt ≤ 40) (hy13 : 0 ≤ rp.toInt) (hy14 : rp.toInt ≤ 160) (hy15 : rp.toInt ≤ rz.toInt) (hy16 : (-1) ≤ rf.toInt) (hy17 : rf.toInt ≤ 160) (hy18 : 0 ≤ rt.toInt) (hy19 : rt.toInt ≤ 40) (hy20 : 0 ≤ ru.toInt) (hy21 : ru.toInt ≤ 8) (hy22 : 0 ≤ rc.toInt) (hy23 : rc.toInt ≤ 33) (hy24 : 0 ≤ cn.toInt) (hy25 : cn.toInt ≤ 8) (hy26 : 0 ≤ de.toInt) (hy27 : de.toInt ≤ 24) (hy28 : 0 ≤ hu.toInt) (hy29 : hu.toInt ≤ 9) (hy30 : 4 ≤ sz.toInt) (hy31 : sz.toInt ≤ 40) (hy32 : 0 ≤ at_.toInt) (hy33 : at_.toInt ≤ 40) (hy34 : 1 ≤ gp.toInt) (hy35 : gp.toInt ≤ 9) (hp_fl : zRg fl (0) 1) (hp_fs : zRg fs (0) 9) (hp_fc : zRg fc (0) 99) (hpz : Nat) : Met l yX7_jacket wsX7_jacket ({ frames := 8, cells := 40, slots := 120, locals := 178 }) (va_Pc [.ref x0, .int s_] (zW D (zKT cI cJ cZ cP cS) po [(x0, .inr (7, [.ref xs, .ref j0, .ref k0, .ref w0, .ref rd, .ref mv, .ref xr, .int im, .int lf])), (xr, .inl (cI, 8, .inl fr)), (xs, .inl (cS, 8, .inr (.inr (.inr (.inr fh))))), (h0, .inr (4, [.ref e0, .int he, .int si])), (e0, .inl (cJ, 160, .inr (.inl fe))), (rd, .inr (3, [.ref ri, .ref rl, .int rz, .int rc, .int rp, .int rf, .int rt, .int ru])), (rl, .inl (cI, 160, .inl fle)), (ri, .inl (cI, 132, .inl fi)), (j0, .inr (0, [.ref z0, .ref jp, .ref jc, .int cn, .int de, .int tr, .int se, .int hu, .int sd])), (z0, .inr (6, [.ref zl, .ref zs, .int sz, .int at_, .int gp])), (zl, .inl (cZ, 40, .inl fl)), (zs, .inl (cI, 40, .inl fs)), (jp, .inl (cP, 8, .inr (.inr (.inr (.inr fp))))), (jc, .inl (cI, 3, .inl fc))] hpz)) (va_Qi (fun (r : Int32) (u : (Int32) × (Int32) × (Int32) × (Int32) × (Int32) × (Int32) × (Int32) × (Nat → Int32) × (Nat → Int32) × (Int32) × (Int32) × (Int32) × (Int32) × (Int32) × (Int32) × (Nat → Int32) × (Nat → Int32) × (Nat → Int32) × (Int32) × (Nat → Option Nat) × (Nat → Int32) × (Nat → Int32) × (Nat → Int32) × (Nat → Int32) × (List (Nat × Int32 × Int32 × Int32))) => ((-1) ≤ u.1.toInt ∧ u.1.toInt ≤ 160) ∧ (0 ≤ u.2.1.toInt ∧ u.2.1.toInt ≤ 160) ∧ (0 ≤ u.2.2.1.toInt ∧ u.2.2.1.toInt ≤ 33) ∧ (0 ≤ u.2.2.2.1.toInt ∧ u.2.2.2.1.toInt ≤ 160) ∧ ((-1) ≤ u.2.2.2.2.1.toInt ∧ u.2.2.2.2.1.toInt ≤ 160) ∧ (0 ≤ u.2.2.2.2.2.1.toInt ∧ u.2.2.2.2.2.1.toInt ≤ 40) ∧ (0 ≤ u.2.2.2.2.2.2.1.toInt ∧ u.2.2.2.2.2.2.1.toInt ≤ 8) ∧ (0 ≤ u.2.2.2.2.2.2.2.2.2.1.toInt ∧ u.2.2.2.2.2.2.2.2.2.1.toInt ≤ 24) ∧ (0 ≤ u.2.2.2.2.2.2.2.2.2.2.2.1.toInt ∧ u.2.2.2.2.2.2.2.2.2.2.2.1.toInt ≤ 9) ∧ (4 ≤ u.2.2.2.2.2.2.2.2.2.2.2.2.1.toInt ∧ u.2.2.2.2.2.2.2.2.2.2.2.2.1.toInt ≤ 40) ∧ (0 ≤ u.2.2.2.2.2.2.2.2.2.2.2.2.2.1.toInt ∧ u.2.2.2.2.2.2.2.2.2.2.2.2.2.1.toInt ≤ 40) ∧ (1 ≤ u.2.2.2.2.2.2.2.2.2.2.2.2.2.2.1.toInt ∧ u.2.2.2.2.2.2.2.2.2.2.2.2.2.2.1.toInt ≤ 9) ∧ zRg u.2.2.2.2.2.2.2.2.2.2.2.2.2.2.2.1 (0) 1 ∧ zRg u.2.2.2.2.2.2.2.2.2.2.2.2.2.2.2.2.1 (0) 9 ∧ zRg u.2.2.2.2.2.2.2.2.2.2.2.2.2.2.2.2.2.1 (0) 99 ∧ (0 ≤ u.2.2.2.2.2.2.2.2.2.2.2.2.2.2.2.2.2.2.1.toInt ∧ u.2.2.2.2.2.2.2.2.2.2.2.2.2.2.2.2.2.2.1.toInt ≤ 8) ∧ (∀ z ∈ u.2.2.2.2.2.2.2.2.2.2.2.2.2.2.2.2.2.2.2.2.2.2.2.2, zPr z.2.1 z.2.2.1 z.2.2.2) ∧ (zExt u.2.2.2.2.2.2.2.2.2.2.2.2.2.2.2.2.2.2.2.2.2.2.2.2 fp cn kf af tf u.2.2.2.2.2.2.2.2.2.2.2.2.2.2.2.2.2.2.2.1 u.2.2.2.2.2.2.2.2.2.2.2.2.2.2.2.2.2.2.1 u.2.2.2.2.2.2.2.2.2.2.2.2.2.2.2.2.2.2.2.2.2.1 u.2.2.2.2.2.2.2.2.2.2.2.2.2.2.2.2.2.2.2.2.2.2.1 u.2.2.2.2.2.2.2.2.2.2.2.2.2.2.2.2.2.2.2.2.2.2.2.1) ∧ (u.2.2.2.1.toInt ≤ u.2.1.toInt) ∧ (zJac (fun j => (fe j).toInt32) si.toInt s_.toInt he.toInt lf.toInt cn.toInt sz.toInt r.toInt u.1.toInt u.2.2.2.2.2.2.2.2.2.2.2.2.2.2.2.2.2.2.1.toInt u.2.2.2.2.2.2.2.2.2.2.2.2.1.toInt) ∧ ((1 ≤ r.toInt → ∀ j : Nat, j < 40 → u.2.2.2.2.2.2.2.2.2.2.2.2.2.2.2.1 j = zRl (zDI (fun j : Nat => (fe j).toInt32) si.toInt sz.toInt cn.toInt) fl r.toInt.toNat j)) ∧ ((1 ≤ r.toInt → ∀ j : Nat, j < 40 → u.2.2.2.2.2.2.2.2.2.2.2.2.2.2.2.2.1 j = zRs (zDI (fun j : Nat => (fe j).toInt32) si.toInt sz.toInt cn.toInt) fs r.toInt.toNat j)) ∧ ((1 ≤ r.toInt → ∀ j : Nat, j < 8 → u.2.2.2.2.2.2.2.2.2.2.2.2.2.2.2.2.2.2.2.2.2.1 j = zRk (zDI (fun j : Nat => (fe j).toInt32) si.toInt sz.toInt cn.toInt) cn.toInt kf r.toInt.toNat j ∧ u.2.2.2.2.2.2.2.2.2.2.2.2.2.2.2.2.2.2.2.2.2.2.1 j = zRa (zDI (fun j : Nat => (fe j).toInt32) si.toInt sz.toInt cn.toInt) cn.toInt af r.toInt.toNat j ∧ u.2.2.2.2.2.2.2.2.2.2.2.2.2.2.2.2.2.2.2.2.2.2.2.1 j = zRt (zDI (fun j : Nat => (fe j).toInt32) si.toInt sz.toInt cn.toInt) cn.toInt tf r.toInt.toNat j)) ∧ ((1 ≤ r.toInt → ∀ j : Nat, j < 3 → u.2.2.2.2.2.2.2.2.2.2.2.2.2.2.2.2.2.1 j = zRc (zDI (fun j : Nat => (fe j).toInt32) si.toInt sz.toInt cn.toInt) fc r.toInt.toNat j)) ∧ ((1 ≤ r.toInt → u.2.2.2.2.2.2.2.2.2.1.toInt = zRn 4 (zDI (fun j : Nat => (fe j).toInt32) si.toInt sz.toInt cn.toInt) de.toInt r.toInt.toNat ∧ u.2.2.2.2.2.2.2.2.2.2.1.toInt = zRn 5 (zDI (fun j : Nat => (fe j).toInt32) si.toInt sz.toInt cn.toInt) se.toInt r.toInt.toNat ∧ u.2.2.2.2.2.2.2.2.2.2.2.1.toInt = zRn 6 (zDI (fun j : Nat => (fe j).toInt32) si.toInt sz.toInt cn.toInt) hu.toInt r.toInt.toNat ∧ u.2.2.2.2.2.2.2.2.2.2.2.2.2.2.1.toInt = zRn 7 (zDI (fun j : Nat => (fe j).toInt32) si.toInt sz.toInt cn.toInt) gp.toInt r.toInt.toNat ∧ u.2.2.2.2.2.2.2.2.2.2.2.2.2.1.toInt = zRat (zDI (fun j : Nat => (fe j).toInt32) si.toInt sz.toInt cn.toInt) at_.toInt r.toInt.toNat)) ∧ ((r.toInt < 1 → u.2.2.2.2.2.2.2.2.2.2.2.2.2.2.2.1 = fl ∧ u.2.2.2.2.2.2.2.2.2.2.2.2.2.2.2.2.1 = fs ∧ u.2.2.2.2.2.2.2.2.2.2.2.2.2.2.2.2.2.2.2.2.2.1 = kf ∧ u.2.2.2.2.2.2.2.2.2.2.2.2.2.2.2.2.2.2.2.2.2.2.1 = af ∧ u.2.2.2.2.2.2.2.2.2.2.2.2.2.2.2.2.2.2.2.2.2.2.2.1 = tf ∧ u.2.2.2.2.2.2.2.2.2.2.2.2.2.2.2.2.2.1 = fc ∧ u.2.2.2.2.2.2.2.2.2.1 = de ∧ u.2.2.2.2.2.2.2.2.2.2.1 = se ∧ u.2.2.2.2.2.2.2.2.2.2.2.1 = hu ∧ u.2.2.2.2.2.2.2.2.2.2.2.2.2.2.1 = gp ∧ u.2.2.2.2.2.2.2.2.2.2.2.2.2.1 = at_)) ∧ (True)) (zB D [(x0, .inr (7, [.ref xs, .ref j0, .ref k0, .ref w0, .ref rd, .ref mv, .ref xr, .int im, .int lf])), (xr, .inl (cI, 8, .inl fr)), (xs, .inl (cS, 8, .inr (.inr (.inr (.inr fh))))), (h0, .inr (4, [.ref e0, .int he, .int si])), (e0, .inl (cJ, 160, .inr (.inl fe))), (rd, .inr (3, [.ref ri, .ref rl, .int rz, .int rc, .int rp, .int rf, .int rt, .int ru])), (rl, .inl (cI, 160, .inl fle)), (ri, .inl (cI, 132, .inl fi)), (j0, .inr (0, [.ref z0, .ref jp, .ref jc, .int cn, .int de, .int tr, .int se, .int hu, .int sd])), (z0, .inr (6, [.ref zl, .ref zs, .int sz, .int at_, .int gp])), (zl, .inl (cZ, 40, .inl fl)), (zs, .inl (cI, 40, .inl fs)), (jp, .inl (cP, 8, .inr (.inr (.inr (.inr fp))))), (jc, .inl (cI, 3, .inl fc))] hpz (fun (u : (Int32) × (Int32) × (Int32) × (Int32) × (Int32) × (Int32) × (Int32) × (Nat → Int32) × (Nat → Int32) × (Int32) × (Int32) × (Int32) × (Int32) × (Int32) × (Int32) × (Nat → Int32) × (Nat → Int32) × (Nat → Int32) × (Int32) × (Nat → Option Nat) × (Nat → Int32) × (Nat → Int32) × (Nat → Int32) × (Nat → Int32) × (List (Nat × Int32 × Int32 × Int32))) => ([(x0, .inr (7, [.ref xs, .ref j0, .ref k0, .ref w0, .ref rd, .ref mv, .ref xr, .int im, .int u.1])), (xr, .inl (cI, 8, .inl u.2.2.2.2.2.2.2.2.2.2.2.2.2.2.2.2.2.2.2.2.1)), (xs, .inl (cS, 8, .inr (.inr (.inr (.inr fh))))), (h0, .inr (4, [.ref e0, .int he, .int si])), (e0, .inl (cJ, 160, .inr (.inl fe))), (rd, .inr (3, [.ref ri, .ref rl, .int u.2.1, .int u.2.2.1, .int u.2.2.2.1, .int u.2.2.2.2.1, .int u.2.2.2.2.2.1, .int u.2.2.2.2.2.2.1])), (rl, .inl (cI, 160, .inl u.2.2.2.2.2.2.2.2.1)), (ri, .inl (cI, 132, .inl u.2.2.2.2.2.2.2.1)), (j0, .inr (0, [.ref z0, .ref jp, .ref jc, .int u.2.2.2.2.2.2.2.2.2.2.2.2.2.2.2.2.2.2.1, .int u.2.2.2.2.2.2.2.2.2.1, .int tr, .int u.2.2.2.2.2.2.2.2.2.2.1, .int u.2.2.2.2.2.2.2.2.2.2.2.1, .int sd])), (z0, .inr (6, [.ref zl, .ref zs, .int u.2.2.2.2.2.2.2.2.2.2.2.2.1, .int u.2.2.2.2.2.2.2.2.2.2.2.2.2.1, .int u.2.2.2.2.2.2.2.2.2.2.2.2.2.2.1])), (zl, .inl (cZ, 40, .inl u.2.2.2.2.2.2.2.2.2.2.2.2.2.2.2.1)), (zs, .inl (cI, 40, .inl u.2.2.2.2.2.2.2.2.2.2.2.2.2.2.2.2.1)), (jp, .inl (cP, 8, .inr (.inr (.inr (.inr u.2.2.2.2.2.2.2.2.2.2.2.2.2.2.2.2.2.2.2.1))))), (jc, .inl (cI, 3, .inl u.2.2.2.2.2.2.2.2.2.2.2.2.2.2.2.2.2.1))] ++ u.2.2.2.2.2.2.2.2.2.2.2.2.2.2.2.2.2.2.2.2.2.2.2.2.map zPo))) (va_A [(x0, .inr (7, [.ref xs, .ref j0, .ref k0, .ref w0, .ref rd, .ref mv, .ref xr, .int im, .int lf])), (xr, .inl (cI, 8, .inl fr)), (xs, .inl (cS, 8, .inr (.inr (.inr (.inr fh))))), (h0, .inr (4, [.ref e0, .int he, .int si])), (e0, .inl (cJ, 160, .inr (.inl fe))), (rd, .inr (3, [.ref ri, .ref rl, .int rz, .int rc, .int rp, .int rf, .int rt, .int ru])), (rl, .inl (cI, 160, .inl fle)), (ri, .inl (cI, 132, .inl fi)), (j0, .inr (0, [.ref z0, .ref jp, .ref jc, .int cn, .int de, .int tr, .int se, .int hu, .int sd])), (z0, .inr (6, [.ref zl, .ref zs, .int sz, .int at_, .int gp])), (zl, .inl (cZ, 40, .inl fl)), (zs, .inl (cI, 40, .inl fs)), (jp, .inl (cP, 8, .inr (.inr (.inr (.inr fp))))), (jc, .inl (cI, 3, .inl fc))] hpz)) 40 120 (va_A [(x0, .inr (7, [.ref xs, .ref j0, .ref k0, .ref w0, .ref rd, .ref mv, .ref xr, .int im, .int lf])), (xr, .inl (cI, 8, .inl fr)), (xs, .inl (cS, 8, .inr (.inr (.inr (.inr fh))))), (h0, .inr (4, [.ref e0, .int he, .int si])), (e0, .inl (cJ, 160, .inr (.inl fe))), (rd, .inr (3, [.ref ri, .ref rl, .int rz, .int rc, .int rp, .int rf, .int rt, .int ru])), (rl, .inl (cI, 160, .inl fle)), (ri, .inl (cI, 132, .inl fi)), (j0, .inr (0, [.ref z0, .ref jp, .ref jc, .int cn, .int de, .int tr, .int se, .int hu, .int sd])), (z0, .inr (6, [.ref zl, .ref zs, .int sz, .int at_, .int gp])), (zl, .inl (cZ, 40, .inl fl)), (zs, .inl (cI, 40, .inl fs)), (jp, .inl (cP, 8, .inr (.inr (.inr (.inr fp))))), (jc, .inl (cI, 3, .inl fc))] hpz) := by
  refine Met.ofW (cc := cX7_jacket) (maxL := 4) (ret := (some .int)) (by decide) rfl ?_
  intro p e s m args below meth c s₁ B hml hv
  obtain ⟨rfl, hsz, hP, hK, hD0, hN, hZ⟩ := hv
  have hx := B.exec
  have hb := B.bytes
  have hr := B.returns
  have hts := atoms_spec (ws := wsX7_jacket) B.pre
  have hown : s.vm.findClass RX7 = some m.cls := findClass_of_methodNamed B.named
  have hlocks := B.notSynchronized
  subst hsz
  have hD := hD0.self (sz := s.heap.size)
  have hA := zA_of hD
  have hl := lv_entry ([.ref x0, .int s_]) (n := 4) (Nat.le_of_ble_eq_true rfl)
  rw [lg_entry_eq]
  generalize (lg_sl ([.ref x0, .int s_]) ++ List.replicate (4 - (lg_sl ([.ref x0, .int s_])).length) Slot.unset).toArray = ls at hl ⊢
  replace hl : lv_has ls 4 [(0, .ref x0), (1, .int s_)] := hl
  refine zw_begin hP hD (fun H locs hP1 hS => ?_)
  clear hP
  have hP := hP1
  clear hP1
  refine lv_aload_n hx hb dX7_jacket_0 rfl (lv_at hl 0 rfl) ?_
  refine lv_iload_n hx hb dX7_jacket_1 rfl (lv_at hl 1 rfl) ?_
  refine zc_Vq (As := [.int s_]) (rest := []) ⟨hx, hb, hml, hown, hts⟩ (c_X_shelfAt l D cI cJ cZ cP cS po x0 xs j0 k0 w0 rd mv xr (im) (lf) ((fun _ => 0)) fh (s_) hy0 hy1 hy2 hy3) (cwV 1 hts gX7_jacket_X7_shelfAt rfl rfl rfl ⟨rfl, dh_X7_shelfAt⟩ ⟨Nat.le_of_ble_eq_true rfl, Nat.le_of_ble_eq_true rfl⟩) hK hN (hZ.kept hS) hP (hP.sub [0, 2] rfl) (va_recv (q := (RX7, TX7, 9)) hK hP (ci := 7) (q0 := 0) rfl rfl) rfl hl.1 rfl (Nat.le_of_ble_eq_true rfl) dX7_jacket_2 ⟨Nat.le_of_ble_eq_true rfl, Nat.le_of_ble_eq_true rfl⟩ (fun r_1 hr_1 => ?_)
  rcases hr_1 with ⟨rfl, g_2⟩ | ⟨rfl, g_3, g_4⟩ | ⟨rfl, g_5, g_6⟩
  · refine lv_astore_nN (lv' := [(2, .null), (0, .ref x0), (1, .int s_)]) hx hb dX7_jacket_5 rfl hl (by decide) rfl (fun ls hl => ?_)
    refine lv_aload_nN hx hb dX7_jacket_6 rfl (lv_at hl 0 rfl) ?_
    refine lv_ifnonnullN hx hb dX7_jacket_7 ?_
    refine lv_aload_n hx hb dX7_jacket_10 rfl (lv_at hl 1 rfl) ?_
    refine lv_iconst (v := 1) hx hb dX7_jacket_11 (by decide) ?_
    skip
    refine zw_V (As := [.int 1]) (rest := []) (wr := [(xs, .inl (cS, 8, .inr (.inr (.inr (.inr fh))))), (h0, .inr (4, [.ref e0, .int he, .int si])), (e0, .inl (cJ, 160, .inr (.inl fe))), (rd, .inr (3, [.ref ri, .ref rl, .int rz, .int rc, .int rp, .int rf, .int rt, .int ru])), (rl, .inl (cI, 160, .inl fle)), (ri, .inl (cI, 132, .inl fi)), (j0, .inr (0, [.ref z0, .ref jp, .ref jc, .int cn, .int de, .int tr, .int se, .int hu, .int sd])), (z0, .inr (6, [.ref zl, .ref zs, .int sz, .int at_, .int gp])), (zl, .inl (cZ, 40, .inl fl)), (zs, .inl (cI, 40, .inl fs)), (jp, .inl (cP, 8, .inr (.inr (.inr (.inr fp))))), (jc, .inl (cI, 3, .inl fc))]) ⟨hx, hb, hml, hown, hts⟩ (c_X_refuse_1 l D cI cJ cZ cP cS po x0 xs j0 k0 w0 rd mv xr (im) (lf) fr hy0 hy1 hy2 hy3 H.size) (cwV 1 hts gX7_jacket_X7_refuse rfl rfl rfl ⟨rfl, dh_X7_refuse⟩ ⟨Nat.le_of_ble_eq_true rfl, Nat.le_of_ble_eq_true rfl⟩) hK hN (hZ.kept hS) hP hD hS hA [0, 1] [2, 3, 4, 5, 6, 7, 8, 9, 10, 11, 12, 13] rfl rfl (by decide) (by decide) (by decide) (va_recv (q := (RX7, TX7, 9)) hK hP (ci := 7) (q0 := 0) rfl rfl) rfl hl.1 rfl (Nat.le_of_ble_eq_true rfl) dX7_jacket_12 ⟨Nat.le_of_ble_eq_true rfl, Nat.le_of_ble_eq_true rfl⟩ (fun r_7 u_8 H locs hr_7 hP hD hS => ?_)
    obtain ⟨q_9, rfl⟩ : ∃ z, z = u_8 := ⟨_, rfl⟩
    have h9R := zRe (ws' := [(xs, .inl (cS, 8, .inr (.inr (.inr (.inr fh))))), (h0, .inr (4, [.ref e0, .int he, .int si])), (e0, .inl (cJ, 160, .inr (.inl fe))), (rd, .inr (3, [.ref ri, .ref rl, .int rz, .int rc, .int rp, .int rf, .int rt, .int ru])), (rl, .inl (cI, 160, .inl fle)), (ri, .inl (cI, 132, .inl fi)), (j0, .inr (0, [.ref z0, .ref jp, .ref jc, .int cn, .int de, .int tr, .int se, .int hu, .int sd])), (z0, .inr (6, [.ref zl, .ref zs, .int sz, .int at_, .int gp])), (zl, .inl (cZ, 40, .inl fl)), (zs, .inl (cI, 40, .inl fs)), (jp, .inl (cP, 8, .inr (.inr (.inr (.inr fp))))), (jc, .inl (cI, 3, .inl fc)), (x0, .inr (7, [.ref xs, .ref j0, .ref k0, .ref w0, .ref rd, .ref mv, .ref xr, .int im, .int lf])), (xr, .inl (cI, 8, .inl q_9))]) hP hD rfl
    clear hP hD
    obtain ⟨hP, hD⟩ := h9R
    obtain rfl := hr_7
    refine W.widen (k := 40) (n := 120) (Nat.le_of_ble_eq_true rfl) (Nat.le_of_ble_eq_true rfl) ?_
    exact W.iret (v := (-1)) hx hb hr (fun t ht hW => ⟨⟨(-1), (lf, rz, rc, rp, rf, rt, ru, fi, fle, de, se, hu, sz, at_, gp, fl, fs, fc, cn, fp, q_9, kf, af, tf, []), rfl, ⟨(show (-1) ≤ lf.toInt ∧ lf.toInt ≤ 160 from ⟨hy2, hy3⟩), (show 0 ≤ rz.toInt ∧ rz.toInt ≤ 160 from ⟨hy9, hy10⟩), (show 0 ≤ rc.toInt ∧ rc.toInt ≤ 33 from ⟨hy11, hy23⟩), (show 0 ≤ rp.toInt ∧ rp.toInt ≤ 160 from ⟨hy13, hy14⟩), (show (-1) ≤ rf.toInt ∧ rf.toInt ≤ 160 from ⟨hy16, hy17⟩), (show 0 ≤ rt.toInt ∧ rt.toInt ≤ 40 from ⟨hy18, hy19⟩), (show 0 ≤ ru.toInt ∧ ru.toInt ≤ 8 from ⟨hy20, hy21⟩), (show 0 ≤ de.toInt ∧ de.toInt ≤ 24 from ⟨hy26, hy27⟩), (show 0 ≤ hu.toInt ∧ hu.toInt ≤ 9 from ⟨hy28, hy29⟩), (show 4 ≤ sz.toInt ∧ sz.toInt ≤ 40 from ⟨hy30, hy31⟩), (show 0 ≤ at_.toInt ∧ at_.toInt ≤ 40 from ⟨hy32, hy33⟩), (show 1 ≤ gp.toInt ∧ gp.toInt ≤ 9 from ⟨hy34, hy35⟩), hp_fl, hp_fs, hp_fc, (show 0 ≤ cn.toInt ∧ cn.toInt ≤ 8 from ⟨hy24, hy25⟩), (by intro z hz; simp at hz), (show zExt [] fp cn kf af tf fp cn kf af tf from by first | exact zExt.refl | assumption), (show rp.toInt ≤ rz.toInt from by omega), (show zJac (fun j => (fe j).toInt32) si.toInt s_.toInt he.toInt lf.toInt cn.toInt sz.toInt ((-1) : Int32).toInt lf.toInt cn.toInt sz.toInt from by (unfold zJac; have k9 : ((-1) : Int32).toInt = -1 := (by decide); first | (left; omega) | (right; left; omega) | (right; right; left; omega))), (show (1 ≤ ((-1) : Int32).toInt → ∀ j : Nat, j < 40 → fl j = zRl (zDI (fun j : Nat => (fe j).toInt32) si.toInt sz.toInt cn.toInt) fl ((-1) : Int32).toInt.toNat j) from by (have k9 : ((-1) : Int32).toInt = -1 := (by decide); intro h; exfalso; omega)), (show (1 ≤ ((-1) : Int32).toInt → ∀ j : Nat, j < 40 → fs j = zRs (zDI (fun j : Nat => (fe j).toInt32) si.toInt sz.toInt cn.toInt) fs ((-1) : Int32).toInt.toNat j) from by (have k9 : ((-1) : Int32).toInt = -1 := (by decide); intro h; exfalso; omega)), (show (1 ≤ ((-1) : Int32).toInt → ∀ j : Nat, j < 8 → kf j = zRk (zDI (fun j : Nat => (fe j).toInt32) si.toInt sz.toInt cn.toInt) cn.toInt kf ((-1) : Int32).toInt.toNat j ∧ af j = zRa (zDI (fun j : Nat => (fe j).toInt32) si.toInt sz.toInt cn.toInt) cn.toInt af ((-1) : Int32).toInt.toNat j ∧ tf j = zRt (zDI (fun j : Nat => (fe j).toInt32) si.toInt sz.toInt cn.toInt) cn.toInt tf ((-1) : Int32).toInt.toNat j) from by (have k9 : ((-1) : Int32).toInt = -1 := (by decide); intro h; exfalso; omega)), (show (1 ≤ ((-1) : Int32).toInt → ∀ j : Nat, j < 3 → fc j = zRc (zDI (fun j : Nat => (fe j).toInt32) si.toInt sz.toInt cn.toInt) fc ((-1) : Int32).toInt.toNat j) from by (have k9 : ((-1) : Int32).toInt = -1 := (by decide); intro h; exfalso; omega)), (show (1 ≤ ((-1) : Int32).toInt → de.toInt = zRn 4 (zDI (fun j : Nat => (fe j).toInt32) si.toInt sz.toInt cn.toInt) de.toInt ((-1) : Int32).toInt.toNat ∧ se.toInt = zRn 5 (zDI (fun j : Nat => (fe j).toInt32) si.toInt sz.toInt cn.toInt) se.toInt ((-1) : Int32).toInt.toNat ∧ hu.toInt = zRn 6 (zDI (fun j : Nat => (fe j).toInt32) si.toInt sz.toInt cn.toInt) hu.toInt ((-1) : Int32).toInt.toNat ∧ gp.toInt = zRn 7 (zDI (fun j : Nat => (fe j).toInt32) si.toInt sz.toInt cn.toInt) gp.toInt ((-1) : Int32).toInt.toNat ∧ at_.toInt = zRat (zDI (fun j : Nat => (fe j).toInt32) si.toInt sz.toInt cn.toInt) at_.toInt ((-1) : Int32).toInt.toNat) from by (have k9 : ((-1) : Int32).toInt = -1 := (by decide); intro h; exfalso; omega)), (show (((-1) : Int32).toInt < 1 → fl = fl ∧ fs = fs ∧ kf = kf ∧ af = af ∧ tf = tf ∧ fc = fc ∧ de = de ∧ se = se ∧ hu = hu ∧ gp = gp ∧ at_ = at_) from by (intro _; exact ⟨rfl, rfl, rfl, rfl, rfl, rfl, rfl, rfl, rfl, rfl, rfl⟩)), trivial⟩, zRet ht hP hD [12, 13, 0, 1, 2, 3, 4, 5, 6, 7, 8, 9, 10, 11] (by decide) rfl⟩, hS.F ht⟩) hS.2.2 dX7_jacket_15
  · refine lv_astore_nN (lv' := [(2, .null), (0, .ref x0), (1, .int s_)]) hx hb dX7_jacket_5 rfl hl (by decide) rfl (fun ls hl => ?_)
    refine lv_aload_nN hx hb dX7_jacket_6 rfl (lv_at hl 0 rfl) ?_
    refine lv_ifnonnullN hx hb dX7_jacket_7 ?_
    refine lv_aload_n hx hb dX7_jacket_10 rfl (lv_at hl 1 rfl) ?_
    refine lv_iconst (v := 1) hx hb dX7_jacket_11 (by decide) ?_
    skip
    refine zw_V (As := [.int 1]) (rest := []) (wr := [(xs, .inl (cS, 8, .inr (.inr (.inr (.inr fh))))), (h0, .inr (4, [.ref e0, .int he, .int si])), (e0, .inl (cJ, 160, .inr (.inl fe))), (rd, .inr (3, [.ref ri, .ref rl, .int rz, .int rc, .int rp, .int rf, .int rt, .int ru])), (rl, .inl (cI, 160, .inl fle)), (ri, .inl (cI, 132, .inl fi)), (j0, .inr (0, [.ref z0, .ref jp, .ref jc, .int cn, .int de, .int tr, .int se, .int hu, .int sd])), (z0, .inr (6, [.ref zl, .ref zs, .int sz, .int at_, .int gp])), (zl, .inl (cZ, 40, .inl fl)), (zs, .inl (cI, 40, .inl fs)), (jp, .inl (cP, 8, .inr (.inr (.inr (.inr fp))))), (jc, .inl (cI, 3, .inl fc))]) ⟨hx, hb, hml, hown, hts⟩ (c_X_refuse_1 l D cI cJ cZ cP cS po x0 xs j0 k0 w0 rd mv xr (im) (lf) fr hy0 hy1 hy2 hy3 H.size) (cwV 1 hts gX7_jacket_X7_refuse rfl rfl rfl ⟨rfl, dh_X7_refuse⟩ ⟨Nat.le_of_ble_eq_true rfl, Nat.le_of_ble_eq_true rfl⟩) hK hN (hZ.kept hS) hP hD hS hA [0, 1] [2, 3, 4, 5, 6, 7, 8, 9, 10, 11, 12, 13] rfl rfl (by decide) (by decide) (by decide) (va_recv (q := (RX7, TX7, 9)) hK hP (ci := 7) (q0 := 0) rfl rfl) rfl hl.1 rfl (Nat.le_of_ble_eq_true rfl) dX7_jacket_12 ⟨Nat.le_of_ble_eq_true rfl, Nat.le_of_ble_eq_true rfl⟩ (fun r_10 u_11 H locs hr_10 hP hD hS => ?_)
    obtain ⟨q_12, rfl⟩ : ∃ z, z = u_11 := ⟨_, rfl⟩
    have h9R := zRe (ws' := [(xs, .inl (cS, 8, .inr (.inr (.inr (.inr fh))))), (h0, .inr (4, [.ref e0, .int he, .int si])), (e0, .inl (cJ, 160, .inr (.inl fe))), (rd, .inr (3, [.ref ri, .ref rl, .int rz, .int rc, .int rp, .int rf, .int rt, .int ru])), (rl, .inl (cI, 160, .inl fle)), (ri, .inl (cI, 132, .inl fi)), (j0, .inr (0, [.ref z0, .ref jp, .ref jc, .int cn, .int de, .int tr, .int se, .int hu, .int sd])), (z0, .inr (6, [.ref zl, .ref zs, .int sz, .int at_, .int gp])), (zl, .inl (cZ, 40, .inl fl)), (zs, .inl (cI, 40, .inl fs)), (jp, .inl (cP, 8, .inr (.inr (.inr (.inr fp))))), (jc, .inl (cI, 3, .inl fc)), (x0, .inr (7, [.ref xs, .ref j0, .ref k0, .ref w0, .ref rd, .ref mv, .ref xr, .int im, .int lf])), (xr, .inl (cI, 8, .inl q_12))]) hP hD rfl
    clear hP hD
    obtain ⟨hP, hD⟩ := h9R
    obtain rfl := hr_10
    refine W.widen (k := 40) (n := 120) (Nat.le_of_ble_eq_true rfl) (Nat.le_of_ble_eq_true rfl) ?_
    exact W.iret (v := (-1)) hx hb hr (fun t ht hW => ⟨⟨(-1), (lf, rz, rc, rp, rf, rt, ru, fi, fle, de, se, hu, sz, at_, gp, fl, fs, fc, cn, fp, q_12, kf, af, tf, []), rfl, ⟨(show (-1) ≤ lf.toInt ∧ lf.toInt ≤ 160 from ⟨hy2, hy3⟩), (show 0 ≤ rz.toInt ∧ rz.toInt ≤ 160 from ⟨hy9, hy10⟩), (show 0 ≤ rc.toInt ∧ rc.toInt ≤ 33 from ⟨hy11, hy23⟩), (show 0 ≤ rp.toInt ∧ rp.toInt ≤ 160 from ⟨hy13, hy14⟩), (show (-1) ≤ rf.toInt ∧ rf.toInt ≤ 160 from ⟨hy16, hy17⟩), (show 0 ≤ rt.toInt ∧ rt.toInt ≤ 40 from ⟨hy18, hy19⟩), (show 0 ≤ ru.toInt ∧ ru.toInt ≤ 8 from ⟨hy20, hy21⟩), (show 0 ≤ de.toInt ∧ de.toInt ≤ 24 from ⟨hy26, hy27⟩), (show 0 ≤ hu.toInt ∧ hu.toInt ≤ 9 from ⟨hy28, hy29⟩), (show 4 ≤ sz.toInt ∧ sz.toInt ≤ 40 from ⟨hy30, hy31⟩), (show 0 ≤ at_.toInt ∧ at_.toInt ≤ 40 from ⟨hy32, hy33⟩), (show 1 ≤ gp.toInt ∧ gp.toInt ≤ 9 from ⟨hy34, hy35⟩), hp_fl, hp_fs, hp_fc, (show 0 ≤ cn.toInt ∧ cn.toInt ≤ 8 from ⟨hy24, hy25⟩), (by intro z hz; simp at hz), (show zExt [] fp cn kf af tf fp cn kf af tf from by first | exact zExt.refl | assumption), (show rp.toInt ≤ rz.toInt from by omega), (show zJac (fun j => (fe j).toInt32) si.toInt s_.toInt he.toInt lf.toInt cn.toInt sz.toInt ((-1) : Int32).toInt lf.toInt cn.toInt sz.toInt from by (unfold zJac; have k9 : ((-1) : Int32).toInt = -1 := (by decide); first | (left; omega) | (right; left; omega) | (right; right; left; omega))), (show (1 ≤ ((-1) : Int32).toInt → ∀ j : Nat, j < 40 → fl j = zRl (zDI (fun j : Nat => (fe j).toInt32) si.toInt sz.toInt cn.toInt) fl ((-1) : Int32).toInt.toNat j) from by (have k9 : ((-1) : Int32).toInt = -1 := (by decide); intro h; exfalso; omega)), (show (1 ≤ ((-1) : Int32).toInt → ∀ j : Nat, j < 40 → fs j = zRs (zDI (fun j : Nat => (fe j).toInt32) si.toInt sz.toInt cn.toInt) fs ((-1) : Int32).toInt.toNat j) from by (have k9 : ((-1) : Int32).toInt = -1 := (by decide); intro h; exfalso; omega)), (show (1 ≤ ((-1) : Int32).toInt → ∀ j : Nat, j < 8 → kf j = zRk (zDI (fun j : Nat => (fe j).toInt32) si.toInt sz.toInt cn.toInt) cn.toInt kf ((-1) : Int32).toInt.toNat j ∧ af j = zRa (zDI (fun j : Nat => (fe j).toInt32) si.toInt sz.toInt cn.toInt) cn.toInt af ((-1) : Int32).toInt.toNat j ∧ tf j = zRt (zDI (fun j : Nat => (fe j).toInt32) si.toInt sz.toInt cn.toInt) cn.toInt tf ((-1) : Int32).toInt.toNat j) from by (have k9 : ((-1) : Int32).toInt = -1 := (by decide); intro h; exfalso; omega)), (show (1 ≤ ((-1) : Int32).toInt → ∀ j : Nat, j < 3 → fc j = zRc (zDI (fun j : Nat => (fe j).toInt32) si.toInt sz.toInt cn.toInt) fc ((-1) : Int32).toInt.toNat j) from by (have k9 : ((-1) : Int32).toInt = -1 := (by decide); intro h; exfalso; omega)), (show (1 ≤ ((-1) : Int32).toInt → de.toInt = zRn 4 (zDI (fun j : Nat => (fe j).toInt32) si.toInt sz.toInt cn.toInt) de.toInt ((-1) : Int32).toInt.toNat ∧ se.toInt = zRn 5 (zDI (fun j : Nat => (fe j).toInt32) si.toInt sz.toInt cn.toInt) se.toInt ((-1) : Int32).toInt.toNat ∧ hu.toInt = zRn 6 (zDI (fun j : Nat => (fe j).toInt32) si.toInt sz.toInt cn.toInt) hu.toInt ((-1) : Int32).toInt.toNat ∧ gp.toInt = zRn 7 (zDI (fun j : Nat => (fe j).toInt32) si.toInt sz.toInt cn.toInt) gp.toInt ((-1) : Int32).toInt.toNat ∧ at_.toInt = zRat (zDI (fun j : Nat => (fe j).toInt32) si.toInt sz.toInt cn.toInt) at_.toInt ((-1) : Int32).toInt.toNat) from by (have k9 : ((-1) : Int32).toInt = -1 := (by decide); intro h; exfalso; omega)), (show (((-1) : Int32).toInt < 1 → fl = fl ∧ fs = fs ∧ kf = kf ∧ af = af ∧ tf = tf ∧ fc = fc ∧ de = de ∧ se = se ∧ hu = hu ∧ gp = gp ∧ at_ = at_) from by (intro _; exact ⟨rfl, rfl, rfl, rfl, rfl, rfl, rfl, rfl, rfl, rfl, rfl⟩)), trivial⟩, zRet ht hP hD [12, 13, 0, 1, 2, 3, 4, 5, 6, 7, 8, 9, 10, 11] (by decide) rfl⟩, hS.F ht⟩) hS.2.2 dX7_jacket_15
  · rw [hfs (by omega) (by omega)]
    refine W.eq (g2 := F0 m 5 ls (.ref h0 :: [])) rfl ?_
    refine lv_astore_n (lv' := [(2, .ref h0), (0, .ref x0), (1, .int s_)]) hx hb dX7_jacket_5 rfl hl (by decide) rfl (fun ls hl => ?_)
    refine lv_aload_n hx hb dX7_jacket_6 rfl (lv_at hl 0 rfl) ?_
    refine lv_ifnonnull (tgt := 16) hx hb dX7_jacket_7 (by decide) ?_
    refine lv_aload_n hx hb dX7_jacket_16 rfl (lv_at hl 0 rfl) ?_
    refine zc_V (As := []) (rest := []) ⟨hx, hb, hml, hown, hts⟩ (c_Sh_noRow l D cI cJ cZ cP cS po h0 e0 (he) (si) hy4 hy5 hy6 hy7) (cwV 0 hts gX7_jacket_X4_noRow rfl rfl rfl ⟨rfl, dh_X4_noRow⟩ ⟨Nat.le_of_ble_eq_true rfl, Nat.le_of_ble_eq_true rfl⟩) hK hN (hZ.kept hS) hP (hP.sub [3] rfl) (va_recv (q := (RX4, TX4, 3)) hK hP (ci := 4) (q0 := 3) rfl rfl) rfl hl.1 rfl (Nat.le_of_ble_eq_true rfl) dX7_jacket_17 ⟨Nat.le_of_ble_eq_true rfl, Nat.le_of_ble_eq_true rfl⟩ (fun r_13 hr_13 => ?_)
    rcases hr_13 with ⟨rfl, g_14, g_15⟩ | ⟨rfl, g_16, g_17⟩ | ⟨rfl, g_18⟩
    · refine lv_istore_n (lv' := [(3, .int 2), (2, .ref h0), (0, .ref x0), (1, .int s_)]) hx hb dX7_jacket_20 rfl hl (by decide) rfl (fun ls hl => ?_)
      refine lv_iload_n hx hb dX7_jacket_21 rfl (lv_at hl 0 rfl) ?_
      refine lv_if_eq (tgt := 31) hx hb dX7_jacket_22 (by decide) (fun c_19 => ?_) (fun c_19 => ?_)
      · exact absurd c_19 (by decide)
      · refine lv_aload_n hx hb dX7_jacket_25 rfl (lv_at hl 2 rfl) ?_
        refine lv_iload_n hx hb dX7_jacket_26 rfl (lv_at hl 0 rfl) ?_
        skip
        refine zw_V (As := [.int 2]) (rest := []) (wr := [(xs, .inl (cS, 8, .inr (.inr (.inr (.inr fh))))), (h0, .inr (4, [.ref e0, .int he, .int si])), (e0, .inl (cJ, 160, .inr (.inl fe))), (rd, .inr (3, [.ref ri, .ref rl, .int rz, .int rc, .int rp, .int rf, .int rt, .int ru])), (rl, .inl (cI, 160, .inl fle)), (ri, .inl (cI, 132, .inl fi)), (j0, .inr (0, [.ref z0, .ref jp, .ref jc, .int cn, .int de, .int tr, .int se, .int hu, .int sd])), (z0, .inr (6, [.ref zl, .ref zs, .int sz, .int at_, .int gp])), (zl, .inl (cZ, 40, .inl fl)), (zs, .inl (cI, 40, .inl fs)), (jp, .inl (cP, 8, .inr (.inr (.inr (.inr fp))))), (jc, .inl (cI, 3, .inl fc))]) ⟨hx, hb, hml, hown, hts⟩ (c_X_refuse_2 l D cI cJ cZ cP cS po x0 xs j0 k0 w0 rd mv xr (im) (lf) fr hy0 hy1 hy2 hy3 H.size) (cwV 1 hts gX7_jacket_X7_refuse rfl rfl rfl ⟨rfl, dh_X7_refuse⟩ ⟨Nat.le_of_ble_eq_true rfl, Nat.le_of_ble_eq_true rfl⟩) hK hN (hZ.kept hS) hP hD hS hA [0, 1] [2, 3, 4, 5, 6, 7, 8, 9, 10, 11, 12, 13] rfl rfl (by decide) (by decide) (by decide) (va_recv (q := (RX7, TX7, 9)) hK hP (ci := 7) (q0 := 0) rfl rfl) rfl hl.1 rfl (Nat.le_of_ble_eq_true rfl) dX7_jacket_27 ⟨Nat.le_of_ble_eq_true rfl, Nat.le_of_ble_eq_true rfl⟩ (fun r_20 u_21 H locs hr_20 hP hD hS => ?_)
        obtain ⟨q_22, rfl⟩ : ∃ z, z = u_21 := ⟨_, rfl⟩
        have h9R := zRe (ws' := [(xs, .inl (cS, 8, .inr (.inr (.inr (.inr fh))))), (h0, .inr (4, [.ref e0, .int he, .int si])), (e0, .inl (cJ, 160, .inr (.inl fe))), (rd, .inr (3, [.ref ri, .ref rl, .int rz, .int rc, .int rp, .int rf, .int rt, .int ru])), (rl, .inl (cI, 160, .inl fle)), (ri, .inl (cI, 132, .inl fi)), (j0, .inr (0, [.ref z0, .ref jp, .ref jc, .int cn, .int de, .int tr, .int se, .int hu, .int sd])), (z0, .inr (6, [.ref zl, .ref zs, .int sz, .int at_, .int gp])), (zl, .inl (cZ, 40, .inl fl)), (zs, .inl (cI, 40, .inl fs)), (jp, .inl (cP, 8, .inr (.inr (.inr (.inr fp))))), (jc, .inl (cI, 3, .inl fc)), (x0, .inr (7, [.ref xs, .ref j0, .ref k0, .ref w0, .ref rd, .ref mv, .ref xr, .int im, .int lf])), (xr, .inl (cI, 8, .inl q_22))]) hP hD rfl
        clear hP hD
        obtain ⟨hP, hD⟩ := h9R
        obtain rfl := hr_20
        refine W.widen (k := 40) (n := 120) (Nat.le_of_ble_eq_true rfl) (Nat.le_of_ble_eq_true rfl) ?_
        exact W.iret (v := (-2)) hx hb hr (fun t ht hW => ⟨⟨(-2), (lf, rz, rc, rp, rf, rt, ru, fi, fle, de, se, hu, sz, at_, gp, fl, fs, fc, cn, fp, q_22, kf, af, tf, []), rfl, ⟨(show (-1) ≤ lf.toInt ∧ lf.toInt ≤ 160 from ⟨hy2, hy3⟩), (show 0 ≤ rz.toInt ∧ rz.toInt ≤ 160 from ⟨hy9, hy10⟩), (show 0 ≤ rc.toInt ∧ rc.toInt ≤ 33 from ⟨hy11, hy23⟩), (show 0 ≤ rp.toInt ∧ rp.toInt ≤ 160 from ⟨hy13, hy14⟩), (show (-1) ≤ rf.toInt ∧ rf.toInt ≤ 160 from ⟨hy16, hy17⟩), (show 0 ≤ rt.toInt ∧ rt.toInt ≤ 40 from ⟨hy18, hy19⟩), (show 0 ≤ ru.toInt ∧ ru.toInt ≤ 8 from ⟨hy20, hy21⟩), (show 0 ≤ de.toInt ∧ de.toInt ≤ 24 from ⟨hy26, hy27⟩), (show 0 ≤ hu.toInt ∧ hu.toInt ≤ 9 from ⟨hy28, hy29⟩), (show 4 ≤ sz.toInt ∧ sz.toInt ≤ 40 from ⟨hy30, hy31⟩), (show 0 ≤ at_.toInt ∧ at_.toInt ≤ 40 from ⟨hy32, hy33⟩), (show 1 ≤ gp.toInt ∧ gp.toInt ≤ 9 from ⟨hy34, hy35⟩), hp_fl, hp_fs, hp_fc, (show 0 ≤ cn.toInt ∧ cn.toInt ≤ 8 from ⟨hy24, hy25⟩), (by intro z hz; simp at hz), (show zExt [] fp cn kf af tf fp cn kf af tf from by first | exact zExt.refl | assumption), (show rp.toInt ≤ rz.toInt from by omega), (show zJac (fun j => (fe j).toInt32) si.toInt s_.toInt he.toInt lf.toInt cn.toInt sz.toInt ((-2) : Int32).toInt lf.toInt cn.toInt sz.toInt from by (unfold zJac; have k9 : ((-2) : Int32).toInt = -2 := (by decide); first | (left; omega) | (right; left; omega) | (right; right; left; omega))), (show (1 ≤ ((-2) : Int32).toInt → ∀ j : Nat, j < 40 → fl j = zRl (zDI (fun j : Nat => (fe j).toInt32) si.toInt sz.toInt cn.toInt) fl ((-2) : Int32).toInt.toNat j) from by (have k9 : ((-2) : Int32).toInt = -2 := (by decide); intro h; exfalso; omega)), (show (1 ≤ ((-2) : Int32).toInt → ∀ j : Nat, j < 40 → fs j = zRs (zDI (fun j : Nat => (fe j).toInt32) si.toInt sz.toInt cn.toInt) fs ((-2) : Int32).toInt.toNat j) from by (have k9 : ((-2) : Int32).toInt = -2 := (by decide); intro h; exfalso; omega)), (show (1 ≤ ((-2) : Int32).toInt → ∀ j : Nat, j < 8 → kf j = zRk (zDI (fun j : Nat => (fe j).toInt32) si.toInt sz.toInt cn.toInt) cn.toInt kf ((-2) : Int32).toInt.toNat j ∧ af j = zRa (zDI (fun j : Nat => (fe j).toInt32) si.toInt sz.toInt cn.toInt) cn.toInt af ((-2) : Int32).toInt.toNat j ∧ tf j = zRt (zDI (fun j : Nat => (fe j).toInt32) si.toInt sz.toInt cn.toInt) cn.toInt tf ((-2) : Int32).toInt.toNat j) from by (have k9 : ((-2) : Int32).toInt = -2 := (by decide); intro h; exfalso; omega)), (show (1 ≤ ((-2) : Int32).toInt → ∀ j : Nat, j < 3 → fc j = zRc (zDI (fun j : Nat => (fe j).toInt32) si.toInt sz.toInt cn.toInt) fc ((-2) : Int32).toInt.toNat j) from by (have k9 : ((-2) : Int32).toInt = -2 := (by decide); intro h; exfalso; omega)), (show (1 ≤ ((-2) : Int32).toInt → de.toInt = zRn 4 (zDI (fun j : Nat => (fe j).toInt32) si.toInt sz.toInt cn.toInt) de.toInt ((-2) : Int32).toInt.toNat ∧ se.toInt = zRn 5 (zDI (fun j : Nat => (fe j).toInt32) si.toInt sz.toInt cn.toInt) se.toInt ((-2) : Int32).toInt.toNat ∧ hu.toInt = zRn 6 (zDI (fun j : Nat => (fe j).toInt32) si.toInt sz.toInt cn.toInt) hu.toInt ((-2) : Int32).toInt.toNat ∧ gp.toInt = zRn 7 (zDI (fun j : Nat => (fe j).toInt32) si.toInt sz.toInt cn.toInt) gp.toInt ((-2) : Int32).toInt.toNat ∧ at_.toInt = zRat (zDI (fun j : Nat => (fe j).toInt32) si.toInt sz.toInt cn.toInt) at_.toInt ((-2) : Int32).toInt.toNat) from by (have k9 : ((-2) : Int32).toInt = -2 := (by decide); intro h; exfalso; omega)), (show (((-2) : Int32).toInt < 1 → fl = fl ∧ fs = fs ∧ kf = kf ∧ af = af ∧ tf = tf ∧ fc = fc ∧ de = de ∧ se = se ∧ hu = hu ∧ gp = gp ∧ at_ = at_) from by (intro _; exact ⟨rfl, rfl, rfl, rfl, rfl, rfl, rfl, rfl, rfl, rfl, rfl⟩)), trivial⟩, zRet ht hP hD [12, 13, 0, 1, 2, 3, 4, 5, 6, 7, 8, 9, 10, 11] (by decide) rfl⟩, hS.F ht⟩) hS.2.2 dX7_jacket_30
    · refine lv_istore_n (lv' := [(3, .int 3), (2, .ref h0), (0, .ref x0), (1, .int s_)]) hx hb dX7_jacket_20 rfl hl (by decide) rfl (fun ls hl => ?_)
      refine lv_iload_n hx hb dX7_jacket_21 rfl (lv_at hl 0 rfl) ?_
      refine lv_if_eq (tgt := 31) hx hb dX7_jacket_22 (by decide) (fun c_23 => ?_) (fun c_23 => ?_)
      · exact absurd c_23 (by decide)
      · refine lv_aload_n hx hb dX7_jacket_25 rfl (lv_at hl 2 rfl) ?_
        refine lv_iload_n hx hb dX7_jacket_26 rfl (lv_at hl 0 rfl) ?_
        skip
        refine zw_V (As := [.int 3]) (rest := []) (wr := [(xs, .inl (cS, 8, .inr (.inr (.inr (.inr fh))))), (h0, .inr (4, [.ref e0, .int he, .int si])), (e0, .inl (cJ, 160, .inr (.inl fe))), (rd, .inr (3, [.ref ri, .ref rl, .int rz, .int rc, .int rp, .int rf, .int rt, .int ru])), (rl, .inl (cI, 160, .inl fle)), (ri, .inl (cI, 132, .inl fi)), (j0, .inr (0, [.ref z0, .ref jp, .ref jc, .int cn, .int de, .int tr, .int se, .int hu, .int sd])), (z0, .inr (6, [.ref zl, .ref zs, .int sz, .int at_, .int gp])), (zl, .inl (cZ, 40, .inl fl)), (zs, .inl (cI, 40, .inl fs)), (jp, .inl (cP, 8, .inr (.inr (.inr (.inr fp))))), (jc, .inl (cI, 3, .inl fc))]) ⟨hx, hb, hml, hown, hts⟩ (c_X_refuse_3 l D cI cJ cZ cP cS po x0 xs j0 k0 w0 rd mv xr (im) (lf) fr hy0 hy1 hy2 hy3 H.size) (cwV 1 hts gX7_jacket_X7_refuse rfl rfl rfl ⟨rfl, dh_X7_refuse⟩ ⟨Nat.le_of_ble_eq_true rfl, Nat.le_of_ble_eq_true rfl⟩) hK hN (hZ.kept hS) hP hD hS hA [0, 1] [2, 3, 4, 5, 6, 7, 8, 9, 10, 11, 12, 13] rfl rfl (by decide) (by decide) (by decide) (va_recv (q := (RX7, TX7, 9)) hK hP (ci := 7) (q0 := 0) rfl rfl) rfl hl.1 rfl (Nat.le_of_ble_eq_true rfl) dX7_jacket_27 ⟨Nat.le_of_ble_eq_true rfl, Nat.le_of_ble_eq_true rfl⟩ (fun r_24 u_25 H locs hr_24 hP hD hS => ?_)
        obtain ⟨q_26, rfl⟩ : ∃ z, z = u_25 := ⟨_, rfl⟩
        have h9R := zRe (ws' := [(xs, .inl (cS, 8, .inr (.inr (.inr (.inr fh))))), (h0, .inr (4, [.ref e0, .int he, .int si])), (e0, .inl (cJ, 160, .inr (.inl fe))), (rd, .inr (3, [.ref ri, .ref rl, .int rz, .int rc, .int rp, .int rf, .int rt, .int ru])), (rl, .inl (cI, 160, .inl fle)), (ri, .inl (cI, 132, .inl fi)), (j0, .inr (0, [.ref z0, .ref jp, .ref jc, .int cn, .int de, .int tr, .int se, .int hu, .int sd])), (z0, .inr (6, [.ref zl, .ref zs, .int sz, .int at_, .int gp])), (zl, .inl (cZ, 40, .inl fl)), (zs, .inl (cI, 40, .inl fs)), (jp, .inl (cP, 8, .inr (.inr (.inr (.inr fp))))), (jc, .inl (cI, 3, .inl fc)), (x0, .inr (7, [.ref xs, .ref j0, .ref k0, .ref w0, .ref rd, .ref mv, .ref xr, .int im, .int lf])), (xr, .inl (cI, 8, .inl q_26))]) hP hD rfl
        clear hP hD
        obtain ⟨hP, hD⟩ := h9R
        obtain rfl := hr_24
        refine W.widen (k := 40) (n := 120) (Nat.le_of_ble_eq_true rfl) (Nat.le_of_ble_eq_true rfl) ?_
        exact W.iret (v := (-3)) hx hb hr (fun t ht hW => ⟨⟨(-3), (lf, rz, rc, rp, rf, rt, ru, fi, fle, de, se, hu, sz, at_, gp, fl, fs, fc, cn, fp, q_26, kf, af, tf, []), rfl, ⟨(show (-1) ≤ lf.toInt ∧ lf.toInt ≤ 160 from ⟨hy2, hy3⟩), (show 0 ≤ rz.toInt ∧ rz.toInt ≤ 160 from ⟨hy9, hy10⟩), (show 0 ≤ rc.toInt ∧ rc.toInt ≤ 33 from ⟨hy11, hy23⟩), (show 0 ≤ rp.toInt ∧ rp.toInt ≤ 160 from ⟨hy13, hy14⟩), (show (-1) ≤ rf.toInt ∧ rf.toInt ≤ 160 from ⟨hy16, hy17⟩), (show 0 ≤ rt.toInt ∧ rt.toInt ≤ 40 from ⟨hy18, hy19⟩), (show 0 ≤ ru.toInt ∧ ru.toInt ≤ 8 from ⟨hy20, hy21⟩), (show 0 ≤ de.toInt ∧ de.toInt ≤ 24 from ⟨hy26, hy27⟩), (show 0 ≤ hu.toInt ∧ hu.toInt ≤ 9 from ⟨hy28, hy29⟩), (show 4 ≤ sz.toInt ∧ sz.toInt ≤ 40 from ⟨hy30, hy31⟩), (show 0 ≤ at_.toInt ∧ at_.toInt ≤ 40 from ⟨hy32, hy33⟩), (show 1 ≤ gp.toInt ∧ gp.toInt ≤ 9 from ⟨hy34, hy35⟩), hp_fl, hp_fs, hp_fc, (show 0 ≤ cn.toInt ∧ cn.toInt ≤ 8 from ⟨hy24, hy25⟩), (by intro z hz; simp at hz), (show zExt [] fp cn kf af tf fp cn kf af tf from by first | exact zExt.refl | assumption), (show rp.toInt ≤ rz.toInt from by omega), (show zJac (fun j => (fe j).toInt32) si.toInt s_.toInt he.toInt lf.toInt cn.toInt sz.toInt ((-3) : Int32).toInt lf.toInt cn.toInt sz.toInt from by (unfold zJac; have k9 : ((-3) : Int32).toInt = -3 := (by decide); first | (left; omega) | (right; left; omega) | (right; right; left; omega))), (show (1 ≤ ((-3) : Int32).toInt → ∀ j : Nat, j < 40 → fl j = zRl (zDI (fun j : Nat => (fe j).toInt32) si.toInt sz.toInt cn.toInt) fl ((-3) : Int32).toInt.toNat j) from by (have k9 : ((-3) : Int32).toInt = -3 := (by decide); intro h; exfalso; omega)), (show (1 ≤ ((-3) : Int32).toInt → ∀ j : Nat, j < 40 → fs j = zRs (zDI (fun j : Nat => (fe j).toInt32) si.toInt sz.toInt cn.toInt) fs ((-3) : Int32).toInt.toNat j) from by (have k9 : ((-3) : Int32).toInt = -3 := (by decide); intro h; exfalso; omega)), (show (1 ≤ ((-3) : Int32).toInt → ∀ j : Nat, j < 8 → kf j = zRk (zDI (fun j : Nat => (fe j).toInt32) si.toInt sz.toInt cn.toInt) cn.toInt kf ((-3) : Int32).toInt.toNat j ∧ af j = zRa (zDI (fun j : Nat => (fe j).toInt32) si.toInt sz.toInt cn.toInt) cn.toInt af ((-3) : Int32).toInt.toNat j ∧ tf j = zRt (zDI (fun j : Nat => (fe j).toInt32) si.toInt sz.toInt cn.toInt) cn.toInt tf ((-3) : Int32).toInt.toNat j) from by (have k9 : ((-3) : Int32).toInt = -3 := (by decide); intro h; exfalso; omega)), (show (1 ≤ ((-3) : Int32).toInt → ∀ j : Nat, j < 3 → fc j = zRc (zDI (fun j : Nat => (fe j).toInt32) si.toInt sz.toInt cn.toInt) fc ((-3) : Int32).toInt.toNat j) from by (have k9 : ((-3) : Int32).toInt = -3 := (by decide); intro h; exfalso; omega)), (show (1 ≤ ((-3) : Int32).toInt → de.toInt = zRn 4 (zDI (fun j : Nat => (fe j).toInt32) si.toInt sz.toInt cn.toInt) de.toInt ((-3) : Int32).toInt.toNat ∧ se.toInt = zRn 5 (zDI (fun j : Nat => (fe j).toInt32) si.toInt sz.toInt cn.toInt) se.toInt ((-3) : Int32).toInt.toNat ∧ hu.toInt = zRn 6 (zDI (fun j : Nat => (fe j).toInt32) si.toInt sz.toInt cn.toInt) hu.toInt ((-3) : Int32).toInt.toNat ∧ gp.toInt = zRn 7 (zDI (fun j : Nat => (fe j).toInt32) si.toInt sz.toInt cn.toInt) gp.toInt ((-3) : Int32).toInt.toNat ∧ at_.toInt = zRat (zDI (fun j : Nat => (fe j).toInt32) si.toInt sz.toInt cn.toInt) at_.toInt ((-3) : Int32).toInt.toNat) from by (have k9 : ((-3) : Int32).toInt = -3 := (by decide); intro h; exfalso; omega)), (show (((-3) : Int32).toInt < 1 → fl = fl ∧ fs = fs ∧ kf = kf ∧ af = af ∧ tf = tf ∧ fc = fc ∧ de = de ∧ se = se ∧ hu = hu ∧ gp = gp ∧ at_ = at_) from by (intro _; exact ⟨rfl, rfl, rfl, rfl, rfl, rfl, rfl, rfl, rfl, rfl, rfl⟩)), trivial⟩, zRet ht hP hD [12, 13, 0, 1, 2, 3, 4, 5, 6, 7, 8, 9, 10, 11] (by decide) rfl⟩, hS.F ht⟩) hS.2.2 dX7_jacket_30
    · refine lv_istore_n (lv' := [(3, .int 0), (2, .ref h0), (0, .ref x0), (1, .int s_)]) hx hb dX7_jacket_20 rfl hl (by decide) rfl (fun ls hl => ?_)
      refine lv_iload_n hx hb dX7_jacket_21 rfl (lv_at hl 0 rfl) ?_
      refine lv_if_eq (tgt := 31) hx hb dX7_jacket_22 (by decide) (fun c_27 => ?_) (fun c_27 => ?_)
      · refine lv_aload_n hx hb dX7_jacket_31 rfl (lv_at hl 2 rfl) ?_
        refine lv_aload_n hx hb dX7_jacket_32 rfl (lv_at hl 2 rfl) ?_
        refine va_get (D := D) (ci := 7) (v := .ref rd) (C := RX7) (T := TX7) (N := 9) hx hb hts hi_X7_jacket_7 hown hK hP 0 rfl rfl 4 (by decide) (hts (.fieldLink RX7 35 "TheLiningsInIt" "reader" "LTheLiningsInIt$Reader;") (List.mem_of_getElem? (i := 1) rfl)) (fun _ h9 => h9) rfl dX7_jacket_33 ?_
        refine lv_aload_n hx hb dX7_jacket_36 rfl (lv_at hl 1 rfl) ?_
        refine lv_aload_n hx hb dX7_jacket_37 rfl (lv_at hl 2 rfl) ?_
        refine va_get (D := D) (ci := 7) (v := .ref j0) (C := RX7) (T := TX7) (N := 9) hx hb hts hi_X7_jacket_7 hown hK hP 0 rfl rfl 1 (by decide) (hts (.fieldLink RX7 18 "TheLiningsInIt" "now" "LTheLiningsInIt$Jacket;") (List.mem_of_getElem? (i := 2) rfl)) (fun _ h9 => h9) rfl dX7_jacket_38 ?_
        refine va_get (D := D) (ci := 0) (v := .ref z0) (C := RX0) (T := TX0) (N := 9) hx hb hts hi_X7_jacket_0 hown hK hP 8 rfl rfl 0 (by decide) (hts (.fieldLink RX7 140 "TheLiningsInIt$Jacket" "zip" "LTheLiningsInIt$Zip;") (List.mem_of_getElem? (i := 3) rfl)) (fun _ h9 => h9) rfl dX7_jacket_41 ?_
        refine va_get (D := D) (ci := 6) (v := .int sz) (C := RX6) (T := TX6) (N := 5) hx hb hts hi_X7_jacket_6 hown hK hP 9 rfl rfl 2 (by decide) (hts (.fieldLink RX7 144 "TheLiningsInIt$Zip" "size" "I") (List.mem_of_getElem? (i := 4) rfl)) (fun _ h9 => h9) rfl dX7_jacket_44 ?_
        refine lv_aload_n hx hb dX7_jacket_47 rfl (lv_at hl 2 rfl) ?_
        refine va_get (D := D) (ci := 7) (v := .ref j0) (C := RX7) (T := TX7) (N := 9) hx hb hts hi_X7_jacket_7 hown hK hP 0 rfl rfl 1 (by decide) (hts (.fieldLink RX7 18 "TheLiningsInIt" "now" "LTheLiningsInIt$Jacket;") (List.mem_of_getElem? (i := 2) rfl)) (fun _ h9 => h9) rfl dX7_jacket_48 ?_
        refine va_get (D := D) (ci := 0) (v := .int cn) (C := RX0) (T := TX0) (N := 9) hx hb hts hi_X7_jacket_0 hown hK hP 8 rfl rfl 3 (by decide) (hts (.fieldLink RX7 123 "TheLiningsInIt$Jacket" "pullCount" "I") (List.mem_of_getElem? (i := 5) rfl)) (fun _ h9 => h9) rfl dX7_jacket_51 ?_
        skip
        refine zw_V (As := [.ref h0, .int sz, .int cn]) (rest := [.ref x0]) (wr := [(x0, .inr (7, [.ref xs, .ref j0, .ref k0, .ref w0, .ref rd, .ref mv, .ref xr, .int im, .int lf])), (xr, .inl (cI, 8, .inl fr)), (xs, .inl (cS, 8, .inr (.inr (.inr (.inr fh))))), (j0, .inr (0, [.ref z0, .ref jp, .ref jc, .int cn, .int de, .int tr, .int se, .int hu, .int sd])), (z0, .inr (6, [.ref zl, .ref zs, .int sz, .int at_, .int gp])), (zl, .inl (cZ, 40, .inl fl)), (zs, .inl (cI, 40, .inl fs)), (jp, .inl (cP, 8, .inr (.inr (.inr (.inr fp))))), (jc, .inl (cI, 3, .inl fc))]) ⟨hx, hb, hml, hown, hts⟩ (c_F_R_read l D cI cJ cZ cP cS po rd ri rl (rz) (rc) (rp) (rf) (rt) (ru) fle fi h0 e0 (he) (si) fe (sz) (cn) hy9 hy10 hy11 hy12 hy13 hy14 (by omega) hy16 hy17 hy18 hy19 hy20 hy21 hy4 hy5 hy6 hy7 hy30 hy31 hy24 hy25 H.size) (cwV 3 hts gX7_jacket_X3_read rfl rfl rfl ⟨rfl, dh_X3_read⟩ ⟨Nat.le_of_ble_eq_true rfl, Nat.le_of_ble_eq_true rfl⟩) hK hN (hZ.kept hS) hP hD hS hA [5, 6, 7, 3, 4] [0, 1, 2, 8, 9, 10, 11, 12, 13] rfl rfl (by decide) (by decide) (by decide) (va_recv (q := (RX3, TX3, 8)) hK hP (ci := 3) (q0 := 5) rfl rfl) rfl hl.1 rfl (Nat.le_of_ble_eq_true rfl) dX7_jacket_54 ⟨Nat.le_of_ble_eq_true rfl, Nat.le_of_ble_eq_true rfl⟩ (fun r_28 u_29 H locs hr_28 hP hD hS => ?_)
        obtain ⟨q_30, q_31, q_32, q_33, q_34, q_35, q_36, q_37⟩ := u_29
        try dsimp only at hr_28
        obtain ⟨hbq_30, hbq_31, hbq_32, hbq_33, hbq_34, hbq_35, hsr_28_0, hsr_28_1, hsr_28_2, hsr_28_3, hsr_28_4, hsr_28_5, hsr_28_6, hsr_28_7, hsr_28_8, hr_28⟩ := hr_28
        have h9R := zRe (ws' := [(x0, .inr (7, [.ref xs, .ref j0, .ref k0, .ref w0, .ref rd, .ref mv, .ref xr, .int im, .int lf])), (xr, .inl (cI, 8, .inl fr)), (xs, .inl (cS, 8, .inr (.inr (.inr (.inr fh))))), (j0, .inr (0, [.ref z0, .ref jp, .ref jc, .int cn, .int de, .int tr, .int se, .int hu, .int sd])), (z0, .inr (6, [.ref zl, .ref zs, .int sz, .int at_, .int gp])), (zl, .inl (cZ, 40, .inl fl)), (zs, .inl (cI, 40, .inl fs)), (jp, .inl (cP, 8, .inr (.inr (.inr (.inr fp))))), (jc, .inl (cI, 3, .inl fc)), (rd, .inr (3, [.ref ri, .ref rl, .int q_30, .int q_31, .int q_32, .int q_33, .int q_34, .int q_35])), (rl, .inl (cI, 160, .inl q_37)), (ri, .inl (cI, 132, .inl q_36)), (h0, .inr (4, [.ref e0, .int he, .int si])), (e0, .inl (cJ, 160, .inr (.inl fe)))]) hP hD rfl
        clear hP hD
        obtain ⟨hP, hD⟩ := h9R
        obtain ⟨g_38, g_39⟩ := hr_28
        refine va_put (D := D) (ci := 7) (v := .int r_28) (ty := .int) (C := RX7) (T := TX7) (N := 9) hx hb hts hi_X7_jacket_7 tyX7 tyX7_ok nmX7 hown hK hP hD hS 0 rfl rfl 8 (by decide) (hts (.fieldLink RX7 54 "TheLiningsInIt" "latestFault" "I") (List.mem_of_getElem? (i := 6) rfl)) (fun _ h9 => h9) rfl (tyX7_ok 8 (Nat.le_of_ble_eq_true rfl)) rfl rfl (Nat.le_of_ble_eq_true rfl) dX7_jacket_57 (fun H locs hP hD hS => ?_)
        have h9R := zRe (ws' := [(x0, .inr (7, [.ref xs, .ref j0, .ref k0, .ref w0, .ref rd, .ref mv, .ref xr, .int im, .int r_28])), (xr, .inl (cI, 8, .inl fr)), (xs, .inl (cS, 8, .inr (.inr (.inr (.inr fh))))), (j0, .inr (0, [.ref z0, .ref jp, .ref jc, .int cn, .int de, .int tr, .int se, .int hu, .int sd])), (z0, .inr (6, [.ref zl, .ref zs, .int sz, .int at_, .int gp])), (zl, .inl (cZ, 40, .inl fl)), (zs, .inl (cI, 40, .inl fs)), (jp, .inl (cP, 8, .inr (.inr (.inr (.inr fp))))), (jc, .inl (cI, 3, .inl fc)), (rd, .inr (3, [.ref ri, .ref rl, .int q_30, .int q_31, .int q_32, .int q_33, .int q_34, .int q_35])), (rl, .inl (cI, 160, .inl q_37)), (ri, .inl (cI, 132, .inl q_36)), (h0, .inr (4, [.ref e0, .int he, .int si])), (e0, .inl (cJ, 160, .inr (.inl fe)))]) hP hD rfl
        clear hP hD
        obtain ⟨hP, hD⟩ := h9R
        refine lv_aload_n hx hb dX7_jacket_60 rfl (lv_at hl 2 rfl) ?_
        refine va_get (D := D) (ci := 7) (v := .int r_28) (C := RX7) (T := TX7) (N := 9) hx hb hts hi_X7_jacket_7 hown hK hP 0 rfl rfl 8 (by decide) (hts (.fieldLink RX7 54 "TheLiningsInIt" "latestFault" "I") (List.mem_of_getElem? (i := 6) rfl)) (fun _ h9 => h9) rfl dX7_jacket_61 ?_
        refine lv_iconst (v := (-1)) hx hb dX7_jacket_64 (by decide) ?_
        refine lv_icmp_eq (tgt := 75) hx hb dX7_jacket_65 (by decide) (fun c_40 => ?_) (fun c_40 => ?_)
        · have fc_40 : r_28.toInt = (-1) := zf_eq c_40 rfl (by decide)
          refine lv_aload_n hx hb dX7_jacket_75 rfl (lv_at hl 2 rfl) ?_
          refine va_get (D := D) (ci := 7) (v := .ref rd) (C := RX7) (T := TX7) (N := 9) hx hb hts hi_X7_jacket_7 hown hK hP 0 rfl rfl 4 (by decide) (hts (.fieldLink RX7 35 "TheLiningsInIt" "reader" "LTheLiningsInIt$Reader;") (List.mem_of_getElem? (i := 1) rfl)) (fun _ h9 => h9) rfl dX7_jacket_76 ?_
          refine lv_aload_n hx hb dX7_jacket_79 rfl (lv_at hl 2 rfl) ?_
          refine va_get (D := D) (ci := 7) (v := .ref j0) (C := RX7) (T := TX7) (N := 9) hx hb hts hi_X7_jacket_7 hown hK hP 0 rfl rfl 1 (by decide) (hts (.fieldLink RX7 18 "TheLiningsInIt" "now" "LTheLiningsInIt$Jacket;") (List.mem_of_getElem? (i := 2) rfl)) (fun _ h9 => h9) rfl dX7_jacket_80 ?_
          skip
          refine zw_Vv (As := [.ref j0]) (rest := []) (wr := [(x0, .inr (7, [.ref xs, .ref j0, .ref k0, .ref w0, .ref rd, .ref mv, .ref xr, .int im, .int r_28])), (xr, .inl (cI, 8, .inl fr)), (xs, .inl (cS, 8, .inr (.inr (.inr (.inr fh))))), (rl, .inl (cI, 160, .inl q_37)), (h0, .inr (4, [.ref e0, .int he, .int si])), (e0, .inl (cJ, 160, .inr (.inl fe)))]) ⟨hx, hb, hml, hown, hts⟩ (c_F_R_tell l D cI cJ cZ cP cS po rd ri rl (q_30) (q_31) (q_32) (q_33) (q_34) (q_35) q_36 j0 jp jc z0 zl zs (cn) (de) (tr) (se) (hu) (sd) (sz) (at_) (gp) fl fs fp kf af tf fc hbq_30.1 hbq_30.2 hbq_31.1 (by omega) hbq_32.1 hbq_32.2 (by omega) hbq_33.1 hbq_33.2 hbq_34.1 hbq_34.2 hbq_35.1 hbq_35.2 hy24 hy25 hy26 hy27 hy28 hy29 hy30 hy31 hy32 hy33 hy34 hy35 hbq_31.1 hbq_31.2 (hsr_28_2 (by omega)) (by have z := (hsr_28_7 (by omega)).1; omega) hp_fl hp_fs hp_fc H.size) (cwV 1 hts gX7_jacket_X3_tell rfl rfl rfl ⟨rfl, dh_X3_tell⟩ ⟨Nat.le_of_ble_eq_true rfl, Nat.le_of_ble_eq_true rfl⟩) hK hN (hZ.kept hS) hP hD hS hA [9, 11, 3, 4, 5, 6, 7, 8] [0, 1, 2, 10, 12, 13] rfl rfl (by decide) (by decide) (by decide) (va_recv (q := (RX3, TX3, 8)) hK hP (ci := 3) (q0 := 9) rfl rfl) rfl hl.1 rfl (Nat.le_of_ble_eq_true rfl) dX7_jacket_83 ⟨Nat.le_of_ble_eq_true rfl, Nat.le_of_ble_eq_true rfl⟩ (fun u_42 H locs hr_41 hP hD hS => ?_)
          obtain ⟨q_43, q_44, q_45, q_46, q_47, q_48, q_49, q_50, q_51, q_52, q_53, q_54, q_55, q_56, q_57⟩ := u_42
          try dsimp only at hr_41
          obtain ⟨hbq_43, hbq_45, hbq_46, hbq_47, hbq_48, hpq_49, hpq_50, hpq_51, hbq_52, hnpq_57, hsr_41_0, hsr_41_1, hsr_41_2, hsr_41_3, hsr_41_4, hsr_41_5, hsr_41_6, hsr_41_7, hr_41⟩ := hr_41
          have h9R := zRe (ws' := ([(x0, .inr (7, [.ref xs, .ref j0, .ref k0, .ref w0, .ref rd, .ref mv, .ref xr, .int im, .int r_28])), (xr, .inl (cI, 8, .inl fr)), (xs, .inl (cS, 8, .inr (.inr (.inr (.inr fh))))), (rl, .inl (cI, 160, .inl q_37)), (h0, .inr (4, [.ref e0, .int he, .int si])), (e0, .inl (cJ, 160, .inr (.inl fe))), (rd, .inr (3, [.ref ri, .ref rl, .int q_30, .int q_31, .int q_32, .int q_33, .int q_34, .int q_35])), (ri, .inl (cI, 132, .inl q_36)), (j0, .inr (0, [.ref z0, .ref jp, .ref jc, .int q_52, .int q_43, .int tr, .int q_44, .int q_45, .int sd])), (z0, .inr (6, [.ref zl, .ref zs, .int q_46, .int q_47, .int q_48])), (zl, .inl (cZ, 40, .inl q_49)), (zs, .inl (cI, 40, .inl q_50)), (jp, .inl (cP, 8, .inr (.inr (.inr (.inr q_53))))), (jc, .inl (cI, 3, .inl q_51))] ++ (q_57.map zPo))) hP hD rfl
          clear hP hD
          obtain ⟨hP, hD⟩ := h9R
          refine W.widen (k := 40) (n := 120) (Nat.le_of_ble_eq_true rfl) (Nat.le_of_ble_eq_true rfl) ?_
          refine lv_aload_n hx hb dX7_jacket_86 rfl (lv_at hl 2 rfl) ?_
          refine va_get (D := D) (ci := 7) (v := .ref rd) (C := RX7) (T := TX7) (N := 9) hx hb hts hi_X7_jacket_7 hown hK hP 0 rfl rfl 4 (by decide) (hts (.fieldLink RX7 35 "TheLiningsInIt" "reader" "LTheLiningsInIt$Reader;") (List.mem_of_getElem? (i := 1) rfl)) (fun _ h9 => h9) rfl dX7_jacket_87 ?_
          refine va_get (D := D) (ci := 3) (v := .int q_31) (C := RX3) (T := TX3) (N := 8) hx hb hts hi_X7_jacket_3 hown hK hP 6 rfl rfl 3 (by decide) (hts (.fieldLink RX7 183 "TheLiningsInIt$Reader" "count" "I") (List.mem_of_getElem? (i := 7) rfl)) (fun _ h9 => h9) rfl dX7_jacket_90 ?_
          refine W.widen (k := 40) (n := 120) (Nat.le_of_ble_eq_true rfl) (Nat.le_of_ble_eq_true rfl) ?_
          exact W.iret (v := q_31) hx hb hr (fun t ht hW => ⟨⟨q_31, (r_28, q_30, q_31, q_32, q_33, q_34, q_35, q_36, q_37, q_43, q_44, q_45, q_46, q_47, q_48, q_49, q_50, q_51, q_52, q_53, fr, q_54, q_55, q_56, q_57), rfl, ⟨(show (-1) ≤ r_28.toInt ∧ r_28.toInt ≤ 160 from ⟨by omega, by omega⟩), (show 0 ≤ q_30.toInt ∧ q_30.toInt ≤ 160 from hbq_30), (show 0 ≤ q_31.toInt ∧ q_31.toInt ≤ 33 from hbq_31), (show 0 ≤ q_32.toInt ∧ q_32.toInt ≤ 160 from hbq_32), (show (-1) ≤ q_33.toInt ∧ q_33.toInt ≤ 160 from hbq_33), (show 0 ≤ q_34.toInt ∧ q_34.toInt ≤ 40 from hbq_34), (show 0 ≤ q_35.toInt ∧ q_35.toInt ≤ 8 from hbq_35), (show 0 ≤ q_43.toInt ∧ q_43.toInt ≤ 24 from hbq_43), (show 0 ≤ q_45.toInt ∧ q_45.toInt ≤ 9 from hbq_45), (show 4 ≤ q_46.toInt ∧ q_46.toInt ≤ 40 from hbq_46), (show 0 ≤ q_47.toInt ∧ q_47.toInt ≤ 40 from hbq_47), (show 1 ≤ q_48.toInt ∧ q_48.toInt ≤ 9 from hbq_48), hpq_49, hpq_50, hpq_51, (show 0 ≤ q_52.toInt ∧ q_52.toInt ≤ 8 from hbq_52), hnpq_57, (show zExt q_57 fp cn kf af tf q_53 q_52 q_54 q_55 q_56 from by first | exact zExt.refl | assumption), (show q_32.toInt ≤ q_30.toInt from by omega), (show zJac (fun j => (fe j).toInt32) si.toInt s_.toInt he.toInt lf.toInt cn.toInt sz.toInt (q_31 : Int32).toInt r_28.toInt q_52.toInt q_46.toInt from by (have z0 := hsr_28_5; have z1 := hsr_28_4; have z2 := zEnd_congr (g := fun j => (fe j).toInt32) (fun j h1 h2 => z1 j.toNat (by omega)) (by omega) ⟨by omega, by omega⟩ ⟨by omega, by omega⟩ z0; rw [show (q_30 : Int32).toInt = si.toInt from by omega] at z2; obtain ⟨c1, c2⟩ := hsr_28_7 (by omega); unfold zJac; refine Or.inr (Or.inr (Or.inr ⟨by omega, by omega, _, _, _, _, z2, Or.inr ⟨by omega, by omega, by omega, ?_, ?_⟩⟩)); (rw [hsr_41_1]; omega); (rw [hsr_41_2]; omega))), (show (1 ≤ (q_31 : Int32).toInt → ∀ j : Nat, j < 40 → q_49 j = zRl (zDI (fun j : Nat => (fe j).toInt32) si.toInt sz.toInt cn.toInt) fl (q_31 : Int32).toInt.toNat j) from by (intro _; have z1 := hsr_28_4; have hSM : ∀ k : Nat, k < (q_31 : Int32).toInt.toNat → zSm (zDF q_36 k) ((zDI (fun j : Nat => (fe j).toInt32) si.toInt sz.toInt cn.toInt) k) := (fun k hk => by (have z := zKI_dj (g := (fun j : Nat => (fe j).toInt32)) (fun j h1 h2 => z1 j.toNat (by omega)) (by omega) ⟨by omega, by omega⟩ ⟨by omega, by omega⟩ (hsr_28_8 (by omega) k hk); rw [show (q_30 : Int32).toInt = si.toInt from by omega] at z; exact z)); intro j hj; rw [hsr_41_3 j hj]; exact zRl_sm hSM (fun _ _ => rfl) j hj)), (show (1 ≤ (q_31 : Int32).toInt → ∀ j : Nat, j < 40 → q_50 j = zRs (zDI (fun j : Nat => (fe j).toInt32) si.toInt sz.toInt cn.toInt) fs (q_31 : Int32).toInt.toNat j) from by (intro _; have z1 := hsr_28_4; have hSM : ∀ k : Nat, k < (q_31 : Int32).toInt.toNat → zSm (zDF q_36 k) ((zDI (fun j : Nat => (fe j).toInt32) si.toInt sz.toInt cn.toInt) k) := (fun k hk => by (have z := zKI_dj (g := (fun j : Nat => (fe j).toInt32)) (fun j h1 h2 => z1 j.toNat (by omega)) (by omega) ⟨by omega, by omega⟩ ⟨by omega, by omega⟩ (hsr_28_8 (by omega) k hk); rw [show (q_30 : Int32).toInt = si.toInt from by omega] at z; exact z)); intro j hj; rw [hsr_41_4 j hj]; exact zRs_sm hSM (fun _ _ => rfl) j hj)), (show (1 ≤ (q_31 : Int32).toInt → ∀ j : Nat, j < 8 → q_54 j = zRk (zDI (fun j : Nat => (fe j).toInt32) si.toInt sz.toInt cn.toInt) cn.toInt kf (q_31 : Int32).toInt.toNat j ∧ q_55 j = zRa (zDI (fun j : Nat => (fe j).toInt32) si.toInt sz.toInt cn.toInt) cn.toInt af (q_31 : Int32).toInt.toNat j ∧ q_56 j = zRt (zDI (fun j : Nat => (fe j).toInt32) si.toInt sz.toInt cn.toInt) cn.toInt tf (q_31 : Int32).toInt.toNat j) from by (intro _; have z1 := hsr_28_4; have hSM : ∀ k : Nat, k < (q_31 : Int32).toInt.toNat → zSm (zDF q_36 k) ((zDI (fun j : Nat => (fe j).toInt32) si.toInt sz.toInt cn.toInt) k) := (fun k hk => by (have z := zKI_dj (g := (fun j : Nat => (fe j).toInt32)) (fun j h1 h2 => z1 j.toNat (by omega)) (by omega) ⟨by omega, by omega⟩ ⟨by omega, by omega⟩ (hsr_28_8 (by omega) k hk); rw [show (q_30 : Int32).toInt = si.toInt from by omega] at z; exact z)); intro j hj; obtain ⟨y1, y2, y3⟩ := hsr_41_5; rw [y1, y2, y3]; exact ⟨zRk_sm (N := 8) hSM (fun _ _ => rfl) j hj, zRa_sm (N := 8) hSM (fun _ _ => rfl) j hj, zRt_sm (N := 8) hSM (fun _ _ => rfl) j hj⟩)), (show (1 ≤ (q_31 : Int32).toInt → ∀ j : Nat, j < 3 → q_51 j = zRc (zDI (fun j : Nat => (fe j).toInt32) si.toInt sz.toInt cn.toInt) fc (q_31 : Int32).toInt.toNat j) from by (intro _; have z1 := hsr_28_4; have hSM : ∀ k : Nat, k < (q_31 : Int32).toInt.toNat → zSm (zDF q_36 k) ((zDI (fun j : Nat => (fe j).toInt32) si.toInt sz.toInt cn.toInt) k) := (fun k hk => by (have z := zKI_dj (g := (fun j : Nat => (fe j).toInt32)) (fun j h1 h2 => z1 j.toNat (by omega)) (by omega) ⟨by omega, by omega⟩ ⟨by omega, by omega⟩ (hsr_28_8 (by omega) k hk); rw [show (q_30 : Int32).toInt = si.toInt from by omega] at z; exact z)); intro j hj; rw [hsr_41_6]; exact zRc_sm (N := 3) hSM (fun _ _ => rfl) j hj)), (show (1 ≤ (q_31 : Int32).toInt → q_43.toInt = zRn 4 (zDI (fun j : Nat => (fe j).toInt32) si.toInt sz.toInt cn.toInt) de.toInt (q_31 : Int32).toInt.toNat ∧ q_44.toInt = zRn 5 (zDI (fun j : Nat => (fe j).toInt32) si.toInt sz.toInt cn.toInt) se.toInt (q_31 : Int32).toInt.toNat ∧ q_45.toInt = zRn 6 (zDI (fun j : Nat => (fe j).toInt32) si.toInt sz.toInt cn.toInt) hu.toInt (q_31 : Int32).toInt.toNat ∧ q_48.toInt = zRn 7 (zDI (fun j : Nat => (fe j).toInt32) si.toInt sz.toInt cn.toInt) gp.toInt (q_31 : Int32).toInt.toNat ∧ q_47.toInt = zRat (zDI (fun j : Nat => (fe j).toInt32) si.toInt sz.toInt cn.toInt) at_.toInt (q_31 : Int32).toInt.toNat) from by (intro _; have z1 := hsr_28_4; have hSM : ∀ k : Nat, k < (q_31 : Int32).toInt.toNat → zSm (zDF q_36 k) ((zDI (fun j : Nat => (fe j).toInt32) si.toInt sz.toInt cn.toInt) k) := (fun k hk => by (have z := zKI_dj (g := (fun j : Nat => (fe j).toInt32)) (fun j h1 h2 => z1 j.toNat (by omega)) (by omega) ⟨by omega, by omega⟩ ⟨by omega, by omega⟩ (hsr_28_8 (by omega) k hk); rw [show (q_30 : Int32).toInt = si.toInt from by omega] at z; exact z)); obtain ⟨y1, y2, y3, y4, y5⟩ := hsr_41_7; rw [y1, y2, y3, y4, y5]; exact ⟨zRn_sm hSM rfl, zRn_sm hSM rfl, zRn_sm hSM rfl, zRn_sm hSM rfl, zRat_sm hSM rfl⟩)), (show ((q_31 : Int32).toInt < 1 → q_49 = fl ∧ q_50 = fs ∧ q_54 = kf ∧ q_55 = af ∧ q_56 = tf ∧ q_51 = fc ∧ q_43 = de ∧ q_44 = se ∧ q_45 = hu ∧ q_48 = gp ∧ q_47 = at_) from by (intro h; exfalso; omega)), trivial⟩, by rw [ht]; exact hP.part (cx := [(x0, .inr (7, [.ref xs, .ref j0, .ref k0, .ref w0, .ref rd, .ref mv, .ref xr, .int im, .int r_28])), (xr, .inl (cI, 8, .inl fr)), (xs, .inl (cS, 8, .inr (.inr (.inr (.inr fh))))), (h0, .inr (4, [.ref e0, .int he, .int si])), (e0, .inl (cJ, 160, .inr (.inl fe))), (rd, .inr (3, [.ref ri, .ref rl, .int q_30, .int q_31, .int q_32, .int q_33, .int q_34, .int q_35])), (rl, .inl (cI, 160, .inl q_37)), (ri, .inl (cI, 132, .inl q_36)), (j0, .inr (0, [.ref z0, .ref jp, .ref jc, .int q_52, .int q_43, .int tr, .int q_44, .int q_45, .int sd])), (z0, .inr (6, [.ref zl, .ref zs, .int q_46, .int q_47, .int q_48])), (zl, .inl (cZ, 40, .inl q_49)), (zs, .inl (cI, 40, .inl q_50)), (jp, .inl (cP, 8, .inr (.inr (.inr (.inr q_53))))), (jc, .inl (cI, 3, .inl q_51))]) (pl := (q_57.map zPo)) [0, 1, 2, 4, 5, 6, 3, 7, 8, 9, 10, 11, 12, 13] rfl, hD.part (cx := [(x0, .inr (7, [.ref xs, .ref j0, .ref k0, .ref w0, .ref rd, .ref mv, .ref xr, .int im, .int r_28])), (xr, .inl (cI, 8, .inl fr)), (xs, .inl (cS, 8, .inr (.inr (.inr (.inr fh))))), (h0, .inr (4, [.ref e0, .int he, .int si])), (e0, .inl (cJ, 160, .inr (.inl fe))), (rd, .inr (3, [.ref ri, .ref rl, .int q_30, .int q_31, .int q_32, .int q_33, .int q_34, .int q_35])), (rl, .inl (cI, 160, .inl q_37)), (ri, .inl (cI, 132, .inl q_36)), (j0, .inr (0, [.ref z0, .ref jp, .ref jc, .int q_52, .int q_43, .int tr, .int q_44, .int q_45, .int sd])), (z0, .inr (6, [.ref zl, .ref zs, .int q_46, .int q_47, .int q_48])), (zl, .inl (cZ, 40, .inl q_49)), (zs, .inl (cI, 40, .inl q_50)), (jp, .inl (cP, 8, .inr (.inr (.inr (.inr q_53))))), (jc, .inl (cI, 3, .inl q_51))]) (pl := (q_57.map zPo)) [0, 1, 2, 4, 5, 6, 3, 7, 8, 9, 10, 11, 12, 13] (by decide) rfl⟩, hS.F ht⟩) hS.2.2 dX7_jacket_93
        · have fc_40 : r_28.toInt ≠ (-1) := zf_ne c_40 rfl (by decide)
          refine lv_aload_n hx hb dX7_jacket_68 rfl (lv_at hl 2 rfl) ?_
          refine lv_bipush (v := 6) hx hb dX7_jacket_69 (by decide) ?_
          skip
          refine zw_V (As := [.int 6]) (rest := []) (wr := [(xs, .inl (cS, 8, .inr (.inr (.inr (.inr fh))))), (j0, .inr (0, [.ref z0, .ref jp, .ref jc, .int cn, .int de, .int tr, .int se, .int hu, .int sd])), (z0, .inr (6, [.ref zl, .ref zs, .int sz, .int at_, .int gp])), (zl, .inl (cZ, 40, .inl fl)), (zs, .inl (cI, 40, .inl fs)), (jp, .inl (cP, 8, .inr (.inr (.inr (.inr fp))))), (jc, .inl (cI, 3, .inl fc)), (rd, .inr (3, [.ref ri, .ref rl, .int q_30, .int q_31, .int q_32, .int q_33, .int q_34, .int q_35])), (rl, .inl (cI, 160, .inl q_37)), (ri, .inl (cI, 132, .inl q_36)), (h0, .inr (4, [.ref e0, .int he, .int si])), (e0, .inl (cJ, 160, .inr (.inl fe)))]) ⟨hx, hb, hml, hown, hts⟩ (c_X_refuse_6 l D cI cJ cZ cP cS po x0 xs j0 k0 w0 rd mv xr (im) (r_28) fr hy0 hy1 (by omega) (by omega) H.size) (cwV 1 hts gX7_jacket_X7_refuse rfl rfl rfl ⟨rfl, dh_X7_refuse⟩ ⟨Nat.le_of_ble_eq_true rfl, Nat.le_of_ble_eq_true rfl⟩) hK hN (hZ.kept hS) hP hD hS hA [0, 1] [2, 3, 4, 5, 6, 7, 8, 9, 10, 11, 12, 13] rfl rfl (by decide) (by decide) (by decide) (va_recv (q := (RX7, TX7, 9)) hK hP (ci := 7) (q0 := 0) rfl rfl) rfl hl.1 rfl (Nat.le_of_ble_eq_true rfl) dX7_jacket_71 ⟨Nat.le_of_ble_eq_true rfl, Nat.le_of_ble_eq_true rfl⟩ (fun r_58 u_59 H locs hr_58 hP hD hS => ?_)
          obtain ⟨q_60, rfl⟩ : ∃ z, z = u_59 := ⟨_, rfl⟩
          have h9R := zRe (ws' := [(xs, .inl (cS, 8, .inr (.inr (.inr (.inr fh))))), (j0, .inr (0, [.ref z0, .ref jp, .ref jc, .int cn, .int de, .int tr, .int se, .int hu, .int sd])), (z0, .inr (6, [.ref zl, .ref zs, .int sz, .int at_, .int gp])), (zl, .inl (cZ, 40, .inl fl)), (zs, .inl (cI, 40, .inl fs)), (jp, .inl (cP, 8, .inr (.inr (.inr (.inr fp))))), (jc, .inl (cI, 3, .inl fc)), (rd, .inr (3, [.ref ri, .ref rl, .int q_30, .int q_31, .int q_32, .int q_33, .int q_34, .int q_35])), (rl, .inl (cI, 160, .inl q_37)), (ri, .inl (cI, 132, .inl q_36)), (h0, .inr (4, [.ref e0, .int he, .int si])), (e0, .inl (cJ, 160, .inr (.inl fe))), (x0, .inr (7, [.ref xs, .ref j0, .ref k0, .ref w0, .ref rd, .ref mv, .ref xr, .int im, .int r_28])), (xr, .inl (cI, 8, .inl q_60))]) hP hD rfl
          clear hP hD
          obtain ⟨hP, hD⟩ := h9R
          obtain rfl := hr_58
          refine W.widen (k := 40) (n := 120) (Nat.le_of_ble_eq_true rfl) (Nat.le_of_ble_eq_true rfl) ?_
          exact W.iret (v := (-6)) hx hb hr (fun t ht hW => ⟨⟨(-6), (r_28, q_30, q_31, q_32, q_33, q_34, q_35, q_36, q_37, de, se, hu, sz, at_, gp, fl, fs, fc, cn, fp, q_60, kf, af, tf, []), rfl, ⟨(show (-1) ≤ r_28.toInt ∧ r_28.toInt ≤ 160 from ⟨by omega, by omega⟩), (show 0 ≤ q_30.toInt ∧ q_30.toInt ≤ 160 from hbq_30), (show 0 ≤ q_31.toInt ∧ q_31.toInt ≤ 33 from hbq_31), (show 0 ≤ q_32.toInt ∧ q_32.toInt ≤ 160 from hbq_32), (show (-1) ≤ q_33.toInt ∧ q_33.toInt ≤ 160 from hbq_33), (show 0 ≤ q_34.toInt ∧ q_34.toInt ≤ 40 from hbq_34), (show 0 ≤ q_35.toInt ∧ q_35.toInt ≤ 8 from hbq_35), (show 0 ≤ de.toInt ∧ de.toInt ≤ 24 from ⟨hy26, hy27⟩), (show 0 ≤ hu.toInt ∧ hu.toInt ≤ 9 from ⟨hy28, hy29⟩), (show 4 ≤ sz.toInt ∧ sz.toInt ≤ 40 from ⟨hy30, hy31⟩), (show 0 ≤ at_.toInt ∧ at_.toInt ≤ 40 from ⟨hy32, hy33⟩), (show 1 ≤ gp.toInt ∧ gp.toInt ≤ 9 from ⟨hy34, hy35⟩), hp_fl, hp_fs, hp_fc, (show 0 ≤ cn.toInt ∧ cn.toInt ≤ 8 from ⟨hy24, hy25⟩), (by intro z hz; simp at hz), (show zExt [] fp cn kf af tf fp cn kf af tf from by first | exact zExt.refl | assumption), (show q_32.toInt ≤ q_30.toInt from by omega), (show zJac (fun j => (fe j).toInt32) si.toInt s_.toInt he.toInt lf.toInt cn.toInt sz.toInt ((-6) : Int32).toInt r_28.toInt cn.toInt sz.toInt from by (have z0 := hsr_28_5; have z1 := hsr_28_4; have z2 := zEnd_congr (g := fun j => (fe j).toInt32) (fun j h1 h2 => z1 j.toNat (by omega)) (by omega) ⟨by omega, by omega⟩ ⟨by omega, by omega⟩ z0; rw [show (q_30 : Int32).toInt = si.toInt from by omega] at z2; unfold zJac; have k9 : ((-6) : Int32).toInt = -6 := (by decide); refine Or.inr (Or.inr (Or.inr ⟨by omega, by omega, _, _, _, _, z2, Or.inl ⟨by omega, by omega, by omega, by omega, by omega⟩⟩)))), (show (1 ≤ ((-6) : Int32).toInt → ∀ j : Nat, j < 40 → fl j = zRl (zDI (fun j : Nat => (fe j).toInt32) si.toInt sz.toInt cn.toInt) fl ((-6) : Int32).toInt.toNat j) from by (have k9 : ((-6) : Int32).toInt = -6 := (by decide); intro h; exfalso; omega)), (show (1 ≤ ((-6) : Int32).toInt → ∀ j : Nat, j < 40 → fs j = zRs (zDI (fun j : Nat => (fe j).toInt32) si.toInt sz.toInt cn.toInt) fs ((-6) : Int32).toInt.toNat j) from by (have k9 : ((-6) : Int32).toInt = -6 := (by decide); intro h; exfalso; omega)), (show (1 ≤ ((-6) : Int32).toInt → ∀ j : Nat, j < 8 → kf j = zRk (zDI (fun j : Nat => (fe j).toInt32) si.toInt sz.toInt cn.toInt) cn.toInt kf ((-6) : Int32).toInt.toNat j ∧ af j = zRa (zDI (fun j : Nat => (fe j).toInt32) si.toInt sz.toInt cn.toInt) cn.toInt af ((-6) : Int32).toInt.toNat j ∧ tf j = zRt (zDI (fun j : Nat => (fe j).toInt32) si.toInt sz.toInt cn.toInt) cn.toInt tf ((-6) : Int32).toInt.toNat j) from by (have k9 : ((-6) : Int32).toInt = -6 := (by decide); intro h; exfalso; omega)), (show (1 ≤ ((-6) : Int32).toInt → ∀ j : Nat, j < 3 → fc j = zRc (zDI (fun j : Nat => (fe j).toInt32) si.toInt sz.toInt cn.toInt) fc ((-6) : Int32).toInt.toNat j) from by (have k9 : ((-6) : Int32).toInt = -6 := (by decide); intro h; exfalso; omega)), (show (1 ≤ ((-6) : Int32).toInt → de.toInt = zRn 4 (zDI (fun j : Nat => (fe j).toInt32) si.toInt sz.toInt cn.toInt) de.toInt ((-6) : Int32).toInt.toNat ∧ se.toInt = zRn 5 (zDI (fun j : Nat => (fe j).toInt32) si.toInt sz.toInt cn.toInt) se.toInt ((-6) : Int32).toInt.toNat ∧ hu.toInt = zRn 6 (zDI (fun j : Nat => (fe j).toInt32) si.toInt sz.toInt cn.toInt) hu.toInt ((-6) : Int32).toInt.toNat ∧ gp.toInt = zRn 7 (zDI (fun j : Nat => (fe j).toInt32) si.toInt sz.toInt cn.toInt) gp.toInt ((-6) : Int32).toInt.toNat ∧ at_.toInt = zRat (zDI (fun j : Nat => (fe j).toInt32) si.toInt sz.toInt cn.toInt) at_.toInt ((-6) : Int32).toInt.toNat) from by (have k9 : ((-6) : Int32).toInt = -6 := (by decide); intro h; exfalso; omega)), (show (((-6) : Int32).toInt < 1 → fl = fl ∧ fs = fs ∧ kf = kf ∧ af = af ∧ tf = tf ∧ fc = fc ∧ de = de ∧ se = se ∧ hu = hu ∧ gp = gp ∧ at_ = at_) from by (intro _; exact ⟨rfl, rfl, rfl, rfl, rfl, rfl, rfl, rfl, rfl, rfl, rfl⟩)), trivial⟩, zRet ht hP hD [12, 13, 0, 10, 11, 7, 8, 9, 1, 2, 3, 4, 5, 6] (by decide) rfl⟩, hS.F ht⟩) hS.2.2 dX7_jacket_74
      · exact absurd c_27 (by decide)
end
section
set_option maxHeartbeats 4000000 in
set_option maxRecDepth 100000 in
theorem c_F_M_word (l : Launch) (D : va_G) (cI cJ cZ cP cS : ClassId) (po : zPool) (m0 mrf mki mpa mta mla msl mco mhe mso msi msh mce mca mwo mnu mte mwa mke mma mth mtr : Nat) (npu nte nat_ nde nto nse nhu nga nsd nfa nba npl nen nnu nwr nra nik : Int32) (gwo : Nat → Int32) (gce : Nat → Int64) (hy0 : 0 ≤ npu.toInt) (hy1 : npu.toInt ≤ 8) (hy2 : 4 ≤ nte.toInt) (hy3 : nte.toInt ≤ 40) (hy4 : 0 ≤ nat_.toInt) (hy5 : nat_.toInt ≤ 40) (hy6 : 0 ≤ nde.toInt) (hy7 : nde.toInt ≤ 24) (hy8 : 0 ≤ nhu.toInt) (hy9 : nhu.toInt ≤ 9) (hy10 : 0 ≤ nra.toInt) (hy11 : nra.toInt ≤ 2000) (hy12 : 0 ≤ nik.toInt) (hy13 : nik.toInt ≤ 1) (hy14 : 0 ≤ nba.toInt) (hy15 : nba.toInt ≤ 1120) (hy16 : 0 ≤ npl.toInt) (hy17 : npl.toInt ≤ 160) (hy18 : 0 ≤ nen.toInt) (hy19 : nen.toInt ≤ 160) (hy20 : npl.toInt ≤ nen.toInt) (hwo : zHWo gwo) (hpz : Nat) : Met l yX8_word wsX8_word ({ frames := 0, cells := 0, slots := 0, locals := 0 }) (va_Pc [.ref m0] (zW D (zKT cI cJ cZ cP cS) po [(zMO m0 npu nte nat_ nde nto nse nhu nga nsd nfa mrf mki mpa mta mla msl mco mhe mso msi msh mce mca mwo mnu mte nba npl nen nnu nwr mwa mke mma mth mtr nra nik), (mwo, .inl (cI, 64, .inl gwo)), (mce, .inl (cJ, 1280, .inr (.inl gce)))] hpz)) (va_Qi (fun (r : Int32) (u : (Int32) × (Int32)) => (0 ≤ u.1.toInt ∧ u.1.toInt ≤ 160) ∧ (npl.toInt ≤ u.1.toInt ∧ u.1.toInt ≤ nen.toInt) ∧ (((zFst (zMF gce nba.toInt) nen.toInt npl.toInt zBls 10 = -1 ∧ r.toInt = -1 ∧ u.2.toInt = npl.toInt + (zMx (zMF gce nba.toInt) nen.toInt npl.toInt zBls 10 : Nat)) ∨ (zFst (zMF gce nba.toInt) nen.toInt npl.toInt zBls 10 = r.toInt ∧ 0 ≤ r.toInt ∧ u.1.toInt = npl.toInt + ((zBls r.toInt.toNat).length : Nat)))) ∧ (-1 ≤ r.toInt ∧ r.toInt ≤ 9)) (zB D [(zMO m0 npu nte nat_ nde nto nse nhu nga nsd nfa mrf mki mpa mta mla msl mco mhe mso msi msh mce mca mwo mnu mte nba npl nen nnu nwr mwa mke mma mth mtr nra nik), (mwo, .inl (cI, 64, .inl gwo)), (mce, .inl (cJ, 1280, .inr (.inl gce)))] hpz (fun (u : (Int32) × (Int32)) => [(zMO m0 npu nte nat_ nde nto nse nhu nga nsd nfa mrf mki mpa mta mla msl mco mhe mso msi msh mce mca mwo mnu mte nba u.1 nen nnu u.2 mwa mke mma mth mtr nra nik), (mwo, .inl (cI, 64, .inl gwo)), (mce, .inl (cJ, 1280, .inr (.inl gce)))])) (va_A [(zMO m0 npu nte nat_ nde nto nse nhu nga nsd nfa mrf mki mpa mta mla msl mco mhe mso msi msh mce mca mwo mnu mte nba npl nen nnu nwr mwa mke mma mth mtr nra nik), (mwo, .inl (cI, 64, .inl gwo)), (mce, .inl (cJ, 1280, .inr (.inl gce)))] hpz)) 0 0 (va_A [(zMO m0 npu nte nat_ nde nto nse nhu nga nsd nfa mrf mki mpa mta mla msl mco mhe mso msi msh mce mca mwo mnu mte nba npl nen nnu nwr mwa mke mma mth mtr nra nik), (mwo, .inl (cI, 64, .inl gwo)), (mce, .inl (cJ, 1280, .inr (.inl gce)))] hpz) := by
  refine Met.ofW (cc := cX8_word) (maxL := 6) (ret := (some .int)) (by decide) rfl ?_
  intro p e s m args below meth c s₁ B hml hv
  obtain ⟨rfl, hsz, hP, hK, hD0, hN, hZ⟩ := hv
  have hx := B.exec
  have hb := B.bytes
  have hr := B.returns
  have hts := atoms_spec (ws := wsX8_word) B.pre
  have hown : s.vm.findClass RX8 = some m.cls := findClass_of_methodNamed B.named
  have hlocks := B.notSynchronized
  subst hsz
  have hD := hD0.self (sz := s.heap.size)
  have hA := zA_of hD
  have hl := lv_entry ([.ref m0]) (n := 6) (Nat.le_of_ble_eq_true rfl)
  rw [lg_entry_eq]
  generalize (lg_sl ([.ref m0]) ++ List.replicate (6 - (lg_sl ([.ref m0])).length) Slot.unset).toArray = ls at hl ⊢
  replace hl : lv_has ls 6 [(0, .ref m0)] := hl
  refine zw_begin hP hD (fun H locs hP1 hS => ?_)
  clear hP
  have hP := hP1
  clear hP1
  refine lv_iconst (v := 0) hx hb dX8_word_0 (by decide) ?_
  refine lv_istore_n (lv' := [(1, .int 0), (0, .ref m0)]) hx hb dX8_word_1 rfl hl (by decide) rfl (fun ls hl => ?_)
  refine lv_aload_n hx hb dX8_word_2 rfl (lv_at hl 1 rfl) ?_
  refine va_get (D := D) (ci := 8) (v := .int npl) (C := RX8) (T := TX8) (N := 38) hx hb hts hi_X8_word_8 hown hK hP 0 rfl rfl 27 (by decide) (hts (.fieldLink RX8 152 "TheLiningsInItModel" "place" "I") (List.mem_of_getElem? (i := 1) rfl)) (fun _ h9 => h9) rfl dX8_word_3 ?_
  refine lv_istore_n (lv' := [(2, .int npl), (1, .int 0), (0, .ref m0)]) hx hb dX8_word_6 rfl hl (by decide) rfl (fun ls hl => ?_)
  refine lv_iconst (v := 0) hx hb dX8_word_7 (by decide) ?_
  refine lv_istore_n (lv' := [(3, .int 0), (2, .int npl), (1, .int 0), (0, .ref m0)]) hx hb dX8_word_8 rfl hl (by decide) rfl (fun ls hl => ?_)
  obtain ⟨i_9, hi_9⟩ : ∃ i : Int32, i = 0 := ⟨_, rfl⟩
  replace hl : lv_has ls 6 [(3, .int i_9), (2, .int npl), (1, .int 0), (0, .ref m0)] := by rw [hi_9]; exact lv_sub hl [0, 1, 2, 3] rfl
  have h1i_9 : i_9.toInt = 0 := by rw [hi_9]; decide
  obtain ⟨nfu, hni_9⟩ : ∃ nq9 : Nat, 10 ≤ i_9.toInt + (nq9 : Int) := ⟨((10 : Int) - 0).toNat, by omega⟩
  have hloi_9 : 0 ≤ i_9.toInt := by omega
  obtain ⟨v_1, hv_1⟩ : ∃ g : Int32, g = 0 := ⟨_, rfl⟩
  obtain ⟨v_2, hv_2⟩ : ∃ g : Int32, g = npl := ⟨_, rfl⟩
  replace hl : lv_has ls 6 [(3, .int i_9), (2, .int v_2), (1, .int v_1), (0, .ref m0)] := by rw [hv_1, hv_2]; exact hl
  have hbv_1 : 0 ≤ v_1.toInt ∧ v_1.toInt ≤ 64 := by rw [hv_1]; exact ⟨by decide, by decide⟩
  have hbv_2 : 0 ≤ v_2.toInt ∧ v_2.toInt ≤ 160 := by rw [hv_2]; exact ⟨by omega, by omega⟩
  have hvi_9_0 : (v_1 : Int32).toInt = (zBg i_9.toInt.toNat : Nat) := by
    (try rw [hi_9]); (try rw [hv_1]); (try rw [hv_2]); decide
  have hvi_9_1 : zFst (zMF gce nba.toInt) nen.toInt npl.toInt zBls i_9.toInt.toNat = -1 := by
    (try rw [hi_9]); (try rw [hv_1]); (try rw [hv_2]); (rw [show ((0 : Int32).toInt.toNat) = 0 from by decide]; rfl)
  have hvi_9_2 : (v_2 : Int32).toInt = npl.toInt + (zMx (zMF gce nba.toInt) nen.toInt npl.toInt zBls i_9.toInt.toNat : Nat) := by
    (try rw [hi_9]); (try rw [hv_1]); (try rw [hv_2]); (rw [show ((0 : Int32).toInt.toNat) = 0 from by decide]; first | (unfold zMx; omega) | (simp [zMx]; done) | (simp [zMx]; omega))
  have hvi_9_3 : i_9.toInt ≤ 10 := by
    (try rw [hi_9]); (try rw [hv_1]); (try rw [hv_2]); first | omega | decide
  clear h1i_9 hi_9 hv_1 hv_2
  skip
  revert hni_9
  revert hloi_9
  revert hvi_9_3
  revert hvi_9_2
  revert hvi_9_1
  revert hvi_9_0
  revert hbv_2
  revert hbv_1
  revert hl
  revert hS
  revert hD
  revert hP
  revert ls
  revert locs
  revert H
  revert v_2
  revert v_1
  revert i_9
  induction nfu with
  | zero =>
    intro i_9 v_1 v_2 H locs ls hP hD hS hl hbv_1 hbv_2 hvi_9_0 hvi_9_1 hvi_9_2 hvi_9_3 hloi_9 hni_9
    have hzi_9 : 10 ≤ i_9.toInt := by omega
    refine lv_iload_n hx hb dX8_word_9 rfl (lv_at hl 0 rfl) ?_
    refine lv_bipush (v := 10) hx hb dX8_word_10 (by decide) ?_
    refine lv_icmp_ge (tgt := 130) hx hb dX8_word_12 (by decide) (fun c_3 => ?_) (fun c_3 => ?_)
    · have fc_3 : 10 ≤ i_9.toInt := zf_le c_3 (by decide) rfl
      refine lv_aload_n hx hb dX8_word_130 rfl (lv_at hl 3 rfl) ?_
      refine lv_iload_n hx hb dX8_word_131 rfl (lv_at hl 1 rfl) ?_
      refine va_put (D := D) (ci := 8) (v := .int v_2) (ty := .int) (C := RX8) (T := TX8) (N := 38) hx hb hts hi_X8_word_8 tyX8 tyX8_ok nmX8 hown hK hP hD hS 0 rfl rfl 30 (by decide) (hts (.fieldLink RX8 149 "TheLiningsInItModel" "wrongAt" "I") (List.mem_of_getElem? (i := 6) rfl)) (fun _ h9 => h9) rfl (tyX8_ok 30 (Nat.le_of_ble_eq_true rfl)) rfl rfl (Nat.le_of_ble_eq_true rfl) dX8_word_132 (fun H locs hP hD hS => ?_)
      have h9R := zRe (ws' := [(zMO m0 npu nte nat_ nde nto nse nhu nga nsd nfa mrf mki mpa mta mla msl mco mhe mso msi msh mce mca mwo mnu mte nba npl nen nnu v_2 mwa mke mma mth mtr nra nik), (mwo, .inl (cI, 64, .inl gwo)), (mce, .inl (cJ, 1280, .inr (.inl gce)))]) hP hD rfl
      clear hP hD
      obtain ⟨hP, hD⟩ := h9R
      refine lv_iconst (v := (-1)) hx hb dX8_word_135 (by decide) ?_
      exact W.iret (v := (-1)) hx hb hr (fun t ht hW => ⟨⟨(-1), (npl, v_2), rfl, ⟨(show 0 ≤ npl.toInt ∧ npl.toInt ≤ 160 from ⟨hy16, hy17⟩), (show npl.toInt ≤ npl.toInt ∧ npl.toInt ≤ nen.toInt from by exact ⟨by omega, by omega⟩), (show ((zFst (zMF gce nba.toInt) nen.toInt npl.toInt zBls 10 = -1 ∧ ((-1) : Int32).toInt = -1 ∧ v_2.toInt = npl.toInt + (zMx (zMF gce nba.toInt) nen.toInt npl.toInt zBls 10 : Nat)) ∨ (zFst (zMF gce nba.toInt) nen.toInt npl.toInt zBls 10 = ((-1) : Int32).toInt ∧ 0 ≤ ((-1) : Int32).toInt ∧ npl.toInt = npl.toInt + ((zBls ((-1) : Int32).toInt.toNat).length : Nat))) from by (have h10 : i_9.toInt.toNat = 10 := (by omega); have z1 := hvi_9_1; have z2 := hvi_9_2; rw [h10] at z1 z2; exact Or.inl ⟨z1, by decide, by omega⟩)), ⟨by decide, by decide⟩⟩, zRet ht hP hD [0, 1, 2] (by decide) rfl⟩, hS.F ht⟩) hS.2.2 dX8_word_136
    · exfalso; have fc_3 : i_9.toInt < 10 := zf_nle c_3 (by decide) rfl; omega
  | succ nfu ih =>
    intro i_9 v_1 v_2 H locs ls hP hD hS hl hbv_1 hbv_2 hvi_9_0 hvi_9_1 hvi_9_2 hvi_9_3 hloi_9 hni_9
    refine lv_iload_n hx hb dX8_word_9 rfl (lv_at hl 0 rfl) ?_
    refine lv_bipush (v := 10) hx hb dX8_word_10 (by decide) ?_
    refine lv_icmp_ge (tgt := 130) hx hb dX8_word_12 (by decide) (fun c_4 => ?_) (fun c_4 => ?_)
    · have fc_4 : 10 ≤ i_9.toInt := zf_le c_4 (by decide) rfl
      refine lv_aload_n hx hb dX8_word_130 rfl (lv_at hl 3 rfl) ?_
      refine lv_iload_n hx hb dX8_word_131 rfl (lv_at hl 1 rfl) ?_
      refine va_put (D := D) (ci := 8) (v := .int v_2) (ty := .int) (C := RX8) (T := TX8) (N := 38) hx hb hts hi_X8_word_8 tyX8 tyX8_ok nmX8 hown hK hP hD hS 0 rfl rfl 30 (by decide) (hts (.fieldLink RX8 149 "TheLiningsInItModel" "wrongAt" "I") (List.mem_of_getElem? (i := 6) rfl)) (fun _ h9 => h9) rfl (tyX8_ok 30 (Nat.le_of_ble_eq_true rfl)) rfl rfl (Nat.le_of_ble_eq_true rfl) dX8_word_132 (fun H locs hP hD hS => ?_)
      have h9R := zRe (ws' := [(zMO m0 npu nte nat_ nde nto nse nhu nga nsd nfa mrf mki mpa mta mla msl mco mhe mso msi msh mce mca mwo mnu mte nba npl nen nnu v_2 mwa mke mma mth mtr nra nik), (mwo, .inl (cI, 64, .inl gwo)), (mce, .inl (cJ, 1280, .inr (.inl gce)))]) hP hD rfl
      clear hP hD
      obtain ⟨hP, hD⟩ := h9R
      refine lv_iconst (v := (-1)) hx hb dX8_word_135 (by decide) ?_
      exact W.iret (v := (-1)) hx hb hr (fun t ht hW => ⟨⟨(-1), (npl, v_2), rfl, ⟨(show 0 ≤ npl.toInt ∧ npl.toInt ≤ 160 from ⟨hy16, hy17⟩), (show npl.toInt ≤ npl.toInt ∧ npl.toInt ≤ nen.toInt from by exact ⟨by omega, by omega⟩), (show ((zFst (zMF gce nba.toInt) nen.toInt npl.toInt zBls 10 = -1 ∧ ((-1) : Int32).toInt = -1 ∧ v_2.toInt = npl.toInt + (zMx (zMF gce nba.toInt) nen.toInt npl.toInt zBls 10 : Nat)) ∨ (zFst (zMF gce nba.toInt) nen.toInt npl.toInt zBls 10 = ((-1) : Int32).toInt ∧ 0 ≤ ((-1) : Int32).toInt ∧ npl.toInt = npl.toInt + ((zBls ((-1) : Int32).toInt.toNat).length : Nat))) from by (have h10 : i_9.toInt.toNat = 10 := (by omega); have z1 := hvi_9_1; have z2 := hvi_9_2; rw [h10] at z1 z2; exact Or.inl ⟨z1, by decide, by omega⟩)), ⟨by decide, by decide⟩⟩, zRet ht hP hD [0, 1, 2] (by decide) rfl⟩, hS.F ht⟩) hS.2.2 dX8_word_136
    · have fc_4 : i_9.toInt < 10 := zf_nle c_4 (by decide) rfl
      obtain ⟨hBE1, hBE2, hBE3⟩ := zBE i_9.toInt.toNat (by omega)
      refine lv_aload_n hx hb dX8_word_15 rfl (lv_at hl 3 rfl) ?_
      refine va_get (D := D) (ci := 8) (v := .int npl) (C := RX8) (T := TX8) (N := 38) hx hb hts hi_X8_word_8 hown hK hP 0 rfl rfl 27 (by decide) (hts (.fieldLink RX8 152 "TheLiningsInItModel" "place" "I") (List.mem_of_getElem? (i := 1) rfl)) (fun _ h9 => h9) rfl dX8_word_16 ?_
      refine lv_istore (lv' := [(4, .int npl), (3, .int i_9), (2, .int v_2), (1, .int v_1), (0, .ref m0)]) hx hb dX8_word_19 hl (by decide) rfl (fun ls hl => ?_)
      refine lv_iload_n hx hb dX8_word_21 rfl (lv_at hl 3 rfl) ?_
      refine lv_istore (lv' := [(5, .int v_1), (4, .int npl), (3, .int i_9), (2, .int v_2), (1, .int v_1), (0, .ref m0)]) hx hb dX8_word_22 hl (by decide) rfl (fun ls hl => ?_)
      obtain ⟨i_24, hi_24⟩ : ∃ i : Int32, i = v_1 := ⟨_, rfl⟩
      replace hl : lv_has ls 6 [(5, .int i_24), (4, .int npl), (3, .int i_9), (2, .int v_2), (1, .int v_1), (0, .ref m0)] := by rw [hi_24]; exact lv_sub hl [0, 1, 2, 3, 4, 5] rfl
      have h1i_24 : i_24.toInt = v_1.toInt := by rw [hi_24]
      obtain ⟨nfu_24, hni_24⟩ : ∃ nq9 : Nat, 64 ≤ i_24.toInt + (nq9 : Int) := ⟨((64 : Int) - v_1.toInt).toNat, by omega⟩
      have hloi_24 : 0 ≤ i_24.toInt := by omega
      obtain ⟨v_5, hv_5⟩ : ∃ g : Int32, g = npl := ⟨_, rfl⟩
      replace hl : lv_has ls 6 [(5, .int i_24), (4, .int v_5), (3, .int i_9), (2, .int v_2), (1, .int v_1), (0, .ref m0)] := by rw [hv_5]; exact hl
      have hbv_5 : 0 ≤ v_5.toInt ∧ v_5.toInt ≤ 160 := by rw [hv_5]; exact ⟨by omega, by omega⟩
      have hvi_24_0 : ((zBg i_9.toInt.toNat : Nat) : Int) ≤ i_24.toInt ∧ i_24.toInt ≤ (zEn i_9.toInt.toNat : Nat) := by
        (try rw [hi_24]); (try rw [hv_5]); exact ⟨by omega, by omega⟩
      have hvi_24_1 : (v_5 : Int32).toInt = npl.toInt + (i_24.toInt - (v_1 : Int32).toInt) ∧ (v_5 : Int32).toInt ≤ nen.toInt := by
        (try rw [hi_24]); (try rw [hv_5]); exact ⟨by omega, by omega⟩
      have hvi_24_2 : zStN gce nba.toInt nen.toInt npl.toInt gwo (zBg i_9.toInt.toNat) (i_24.toInt.toNat - zBg i_9.toInt.toNat) := by
        (try rw [hi_24]); (try rw [hv_5]); (rw [show (v_1 : Int32).toInt.toNat - zBg i_9.toInt.toNat = 0 from by omega]; exact zStN_0)
      clear h1i_24 hi_24 hv_5
      skip
      revert hni_24
      revert hloi_24
      revert hvi_24_2
      revert hvi_24_1
      revert hvi_24_0
      revert hbv_5
      revert hl
      revert hS
      revert hD
      revert hP
      revert ls
      revert locs
      revert H
      revert v_5
      revert i_24
      induction nfu_24 with
      | zero =>
        intro i_24 v_5 H locs ls hP hD hS hl hbv_5 hvi_24_0 hvi_24_1 hvi_24_2 hloi_24 hni_24
        exfalso; omega
      | succ nfu_24 ih_24 =>
        intro i_24 v_5 H locs ls hP hD hS hl hbv_5 hvi_24_0 hvi_24_1 hvi_24_2 hloi_24 hni_24
        refine lv_aload_n hx hb dX8_word_24 rfl (lv_at hl 5 rfl) ?_
        refine va_get (D := D) (ci := 8) (v := .ref mwo) (C := RX8) (T := TX8) (N := 38) hx hb hts hi_X8_word_8 hown hK hP 0 rfl rfl 23 (by decide) (hts (.fieldLink RX8 66 "TheLiningsInItModel" "words" "[I") (List.mem_of_getElem? (i := 2) rfl)) (fun _ h9 => h9) rfl dX8_word_25 ?_
        refine lv_iload hx hb dX8_word_28 (lv_at hl 0 rfl) ?_
        refine va_iald hx hb hK hP 1 0 rfl rfl (zf_in (by omega) (by omega)) dX8_word_30 ?_
        refine lv_topi (fun x_6 ex_6 => ?_)
        have hzx_6 : x_6.toInt = 0 ↔ i_24.toInt.toNat = zEn i_9.toInt.toNat := by rw [ex_6]; exact zWo_rd (c := i_24.toInt.toNat) hwo (by omega) (by omega) (by omega)
        refine lv_if_eq (tgt := 75) hx hb dX8_word_31 (by decide) (fun c_7 => ?_) (fun c_7 => ?_)
        · have fc_7 : x_6.toInt = 0 := zf_eq c_7 rfl (by decide)
          have hLC : zLc (zMF gce nba.toInt) nen.toInt npl.toInt (zBls i_9.toInt.toNat) = (i_24.toInt.toNat - zBg i_9.toInt.toNat) := zMW_lc hwo (by omega) (by omega) hvi_24_2 (by omega) (by first | exact Or.inl (by omega) | exact Or.inr (fun h => by (have z1 := h.1; omega)))
          obtain ⟨hWB, -⟩ := zWoB i_9.toInt.toNat (by omega)
          refine lv_aload_n hx hb dX8_word_75 rfl (lv_at hl 5 rfl) ?_
          refine va_get (D := D) (ci := 8) (v := .ref mwo) (C := RX8) (T := TX8) (N := 38) hx hb hts hi_X8_word_8 hown hK hP 0 rfl rfl 23 (by decide) (hts (.fieldLink RX8 66 "TheLiningsInItModel" "words" "[I") (List.mem_of_getElem? (i := 2) rfl)) (fun _ h9 => h9) rfl dX8_word_76 ?_
          refine lv_iload hx hb dX8_word_79 (lv_at hl 0 rfl) ?_
          refine va_iald hx hb hK hP 1 0 rfl rfl (zf_in (by omega) (by omega)) dX8_word_81 ?_
          refine lv_topi (fun x_8 ex_8 => ?_)
          have hzx_8 : x_8.toInt = 0 ↔ i_24.toInt.toNat = zEn i_9.toInt.toNat := by rw [ex_8]; exact zWo_rd (c := i_24.toInt.toNat) hwo (by omega) (by omega) (by omega)
          refine lv_if_ne (tgt := 93) hx hb dX8_word_82 (by decide) (fun c_9 => ?_) (fun c_9 => ?_)
          · have fc_9 : x_8.toInt ≠ 0 := zf_ne c_9 rfl (by decide)
            refine lv_iload hx hb dX8_word_93 (lv_at hl 1 rfl) ?_
            refine lv_iload_n hx hb dX8_word_95 rfl (lv_at hl 3 rfl) ?_
            refine lv_icmp_le (tgt := 104) hx hb dX8_word_96 (by decide) (fun c_10 => ?_) (fun c_10 => ?_)
            · have fc_10 : v_5.toInt ≤ v_2.toInt := zf_le c_10 rfl rfl
              refine lv_iload_n hx hb dX8_word_104 rfl (lv_at hl 3 rfl) ?_
              refine lv_istore_n (lv' := [(2, .int v_2), (5, .int i_24), (4, .int v_5), (3, .int i_9), (1, .int v_1), (0, .ref m0)]) hx hb dX8_word_105 rfl hl (by decide) rfl (fun ls hl => ?_)
              obtain ⟨i_106, hi_106⟩ : ∃ i : Int32, i = v_1 := ⟨_, rfl⟩
              replace hl : lv_has ls 6 [(2, .int v_2), (3, .int i_9), (1, .int i_106), (0, .ref m0)] := by rw [hi_106]; exact lv_sub hl [0, 3, 4, 5] rfl
              have h1i_106 : i_106.toInt = v_1.toInt := by rw [hi_106]
              obtain ⟨nfu_106, hni_106⟩ : ∃ nq9 : Nat, 64 ≤ i_106.toInt + (nq9 : Int) := ⟨((64 : Int) - v_1.toInt).toNat, by omega⟩
              have hloi_106 : 0 ≤ i_106.toInt := by omega
              have hvi_106_0 : ((zBg i_9.toInt.toNat : Nat) : Int) ≤ i_106.toInt ∧ i_106.toInt ≤ (zEn i_9.toInt.toNat : Nat) := by
                (try rw [hi_106]); exact ⟨by omega, by omega⟩
              clear h1i_106 hi_106
              skip
              revert hni_106
              revert hloi_106
              revert hvi_106_0
              revert hl
              revert hS
              revert hD
              revert hP
              revert ls
              revert locs
              revert H
              revert i_106
              induction nfu_106 with
              | zero =>
                intro i_106 H locs ls hP hD hS hl hvi_106_0 hloi_106 hni_106
                exfalso; omega
              | succ nfu_106 ih_106 =>
                intro i_106 H locs ls hP hD hS hl hvi_106_0 hloi_106 hni_106
                refine lv_aload_n hx hb dX8_word_106 rfl (lv_at hl 3 rfl) ?_
                refine va_get (D := D) (ci := 8) (v := .ref mwo) (C := RX8) (T := TX8) (N := 38) hx hb hts hi_X8_word_8 hown hK hP 0 rfl rfl 23 (by decide) (hts (.fieldLink RX8 66 "TheLiningsInItModel" "words" "[I") (List.mem_of_getElem? (i := 2) rfl)) (fun _ h9 => h9) rfl dX8_word_107 ?_
                refine lv_iload_n hx hb dX8_word_110 rfl (lv_at hl 2 rfl) ?_
                refine va_iald hx hb hK hP 1 0 rfl rfl (zf_in (by omega) (by omega)) dX8_word_111 ?_
                refine lv_topi (fun x_11 ex_11 => ?_)
                have hzx_11 : x_11.toInt = 0 ↔ i_106.toInt.toNat = zEn i_9.toInt.toNat := by rw [ex_11]; exact zWo_rd (c := i_106.toInt.toNat) hwo (by omega) (by omega) (by omega)
                refine lv_if_eq (tgt := 121) hx hb dX8_word_112 (by decide) (fun c_12 => ?_) (fun c_12 => ?_)
                · have fc_12 : x_11.toInt = 0 := zf_eq c_12 rfl (by decide)
                  obtain ⟨x_13, ex_13⟩ : ∃ y : Int32, y = i_106 + 1 := ⟨_, rfl⟩
                  have qx_13 : x_13.toInt = i_106.toInt + 1 := by rw [ex_13]; exact zf_add rfl (by decide) (by omega) (by omega)
                  refine lv_iinc (v := x_13) (lv' := [(1, .int x_13), (2, .int v_2), (3, .int i_9), (0, .ref m0)]) hx hb dX8_word_121 hl (k := 2) rfl ex_13.symm (by decide) rfl (fun ls hl => ?_)
                  obtain ⟨x_14, ex_14⟩ : ∃ y : Int32, y = i_9 + 1 := ⟨_, rfl⟩
                  have qx_14 : x_14.toInt = i_9.toInt + 1 := dw_incK ex_14 fc_4 (by decide)
                  refine lv_iinc (v := x_14) (lv' := [(3, .int x_14), (1, .int x_13), (2, .int v_2), (0, .ref m0)]) hx hb dX8_word_124 hl (k := 2) rfl ex_14.symm (by decide) rfl (fun ls hl => ?_)
                  refine lv_goto (tgt := 9) hx hb dX8_word_127 (by decide) ?_
                  exact ih x_14 x_13 v_2 _ _ _ (hP.sub [0, 1, 2] rfl) (hD.sub [0, 1, 2] (by decide) rfl) hS (lv_sub hl [0, 2, 1, 3] rfl) ⟨by omega, by omega⟩ hbv_2 (show (x_13 : Int32).toInt = (zBg x_14.toInt.toNat : Nat) from by (rw [show x_14.toInt.toNat = i_9.toInt.toNat + 1 from by omega]; omega)) (show zFst (zMF gce nba.toInt) nen.toInt npl.toInt zBls x_14.toInt.toNat = -1 from by exact zFst_no hvi_9_1 hLC (by omega) (by omega)) (show (v_2 : Int32).toInt = npl.toInt + (zMx (zMF gce nba.toInt) nen.toInt npl.toInt zBls x_14.toInt.toNat : Nat) from by exact zMx_to hvi_9_2 hLC (by omega) (by omega)) (show x_14.toInt ≤ 10 from by omega) (dw_lo hloi_9 qx_14) (dw_hn hni_9 qx_14)
                · have fc_12 : x_11.toInt ≠ 0 := zf_ne c_12 rfl (by decide)
                  obtain ⟨x_15, ex_15⟩ : ∃ y : Int32, y = i_106 + 1 := ⟨_, rfl⟩
                  have qx_15 : x_15.toInt = i_106.toInt + 1 := by rw [ex_15]; exact zf_add rfl (by decide) (by omega) (by omega)
                  refine lv_iinc (v := x_15) (lv' := [(1, .int x_15), (2, .int v_2), (3, .int i_9), (0, .ref m0)]) hx hb dX8_word_115 hl (k := 2) rfl ex_15.symm (by decide) rfl (fun ls hl => ?_)
                  refine lv_goto (tgt := 106) hx hb dX8_word_118 (by decide) ?_
                  exact ih_106 x_15 _ _ _ (hP.sub [0, 1, 2] rfl) (hD.sub [0, 1, 2] (by decide) rfl) hS (lv_sub hl [1, 2, 0, 3] rfl) (show ((zBg i_9.toInt.toNat : Nat) : Int) ≤ x_15.toInt ∧ x_15.toInt ≤ (zEn i_9.toInt.toNat : Nat) from by exact ⟨by omega, by omega⟩) (dw_lo hloi_106 qx_15) (dw_hn hni_106 qx_15)
            · have fc_10 : v_2.toInt < v_5.toInt := zf_nle c_10 rfl rfl
              refine lv_iload hx hb dX8_word_99 (lv_at hl 1 rfl) ?_
              refine lv_goto (tgt := 105) hx hb dX8_word_101 (by decide) ?_
              refine lv_istore_n (lv' := [(2, .int v_5), (5, .int i_24), (4, .int v_5), (3, .int i_9), (1, .int v_1), (0, .ref m0)]) hx hb dX8_word_105 rfl hl (by decide) rfl (fun ls hl => ?_)
              obtain ⟨i_106, hi_106⟩ : ∃ i : Int32, i = v_1 := ⟨_, rfl⟩
              replace hl : lv_has ls 6 [(2, .int v_5), (3, .int i_9), (1, .int i_106), (0, .ref m0)] := by rw [hi_106]; exact lv_sub hl [0, 3, 4, 5] rfl
              have h1i_106 : i_106.toInt = v_1.toInt := by rw [hi_106]
              obtain ⟨nfu_106, hni_106⟩ : ∃ nq9 : Nat, 64 ≤ i_106.toInt + (nq9 : Int) := ⟨((64 : Int) - v_1.toInt).toNat, by omega⟩
              have hloi_106 : 0 ≤ i_106.toInt := by omega
              have hvi_106_0 : ((zBg i_9.toInt.toNat : Nat) : Int) ≤ i_106.toInt ∧ i_106.toInt ≤ (zEn i_9.toInt.toNat : Nat) := by
                (try rw [hi_106]); exact ⟨by omega, by omega⟩
              clear h1i_106 hi_106
              skip
              revert hni_106
              revert hloi_106
              revert hvi_106_0
              revert hl
              revert hS
              revert hD
              revert hP
              revert ls
              revert locs
              revert H
              revert i_106
              induction nfu_106 with
              | zero =>
                intro i_106 H locs ls hP hD hS hl hvi_106_0 hloi_106 hni_106
                exfalso; omega
              | succ nfu_106 ih_106 =>
                intro i_106 H locs ls hP hD hS hl hvi_106_0 hloi_106 hni_106
                refine lv_aload_n hx hb dX8_word_106 rfl (lv_at hl 3 rfl) ?_
                refine va_get (D := D) (ci := 8) (v := .ref mwo) (C := RX8) (T := TX8) (N := 38) hx hb hts hi_X8_word_8 hown hK hP 0 rfl rfl 23 (by decide) (hts (.fieldLink RX8 66 "TheLiningsInItModel" "words" "[I") (List.mem_of_getElem? (i := 2) rfl)) (fun _ h9 => h9) rfl dX8_word_107 ?_
                refine lv_iload_n hx hb dX8_word_110 rfl (lv_at hl 2 rfl) ?_
                refine va_iald hx hb hK hP 1 0 rfl rfl (zf_in (by omega) (by omega)) dX8_word_111 ?_
                refine lv_topi (fun x_16 ex_16 => ?_)
                have hzx_16 : x_16.toInt = 0 ↔ i_106.toInt.toNat = zEn i_9.toInt.toNat := by rw [ex_16]; exact zWo_rd (c := i_106.toInt.toNat) hwo (by omega) (by omega) (by omega)
                refine lv_if_eq (tgt := 121) hx hb dX8_word_112 (by decide) (fun c_17 => ?_) (fun c_17 => ?_)
                · have fc_17 : x_16.toInt = 0 := zf_eq c_17 rfl (by decide)
                  obtain ⟨x_18, ex_18⟩ : ∃ y : Int32, y = i_106 + 1 := ⟨_, rfl⟩
                  have qx_18 : x_18.toInt = i_106.toInt + 1 := by rw [ex_18]; exact zf_add rfl (by decide) (by omega) (by omega)
                  refine lv_iinc (v := x_18) (lv' := [(1, .int x_18), (2, .int v_5), (3, .int i_9), (0, .ref m0)]) hx hb dX8_word_121 hl (k := 2) rfl ex_18.symm (by decide) rfl (fun ls hl => ?_)
                  obtain ⟨x_19, ex_19⟩ : ∃ y : Int32, y = i_9 + 1 := ⟨_, rfl⟩
                  have qx_19 : x_19.toInt = i_9.toInt + 1 := dw_incK ex_19 fc_4 (by decide)
                  refine lv_iinc (v := x_19) (lv' := [(3, .int x_19), (1, .int x_18), (2, .int v_5), (0, .ref m0)]) hx hb dX8_word_124 hl (k := 2) rfl ex_19.symm (by decide) rfl (fun ls hl => ?_)
                  refine lv_goto (tgt := 9) hx hb dX8_word_127 (by decide) ?_
                  exact ih x_19 x_18 v_5 _ _ _ (hP.sub [0, 1, 2] rfl) (hD.sub [0, 1, 2] (by decide) rfl) hS (lv_sub hl [0, 2, 1, 3] rfl) ⟨by omega, by omega⟩ hbv_5 (show (x_18 : Int32).toInt = (zBg x_19.toInt.toNat : Nat) from by (rw [show x_19.toInt.toNat = i_9.toInt.toNat + 1 from by omega]; omega)) (show zFst (zMF gce nba.toInt) nen.toInt npl.toInt zBls x_19.toInt.toNat = -1 from by exact zFst_no hvi_9_1 hLC (by omega) (by omega)) (show (v_5 : Int32).toInt = npl.toInt + (zMx (zMF gce nba.toInt) nen.toInt npl.toInt zBls x_19.toInt.toNat : Nat) from by exact zMx_to hvi_9_2 hLC (by omega) (by omega)) (show x_19.toInt ≤ 10 from by omega) (dw_lo hloi_9 qx_19) (dw_hn hni_9 qx_19)
                · have fc_17 : x_16.toInt ≠ 0 := zf_ne c_17 rfl (by decide)
                  obtain ⟨x_20, ex_20⟩ : ∃ y : Int32, y = i_106 + 1 := ⟨_, rfl⟩
                  have qx_20 : x_20.toInt = i_106.toInt + 1 := by rw [ex_20]; exact zf_add rfl (by decide) (by omega) (by omega)
                  refine lv_iinc (v := x_20) (lv' := [(1, .int x_20), (2, .int v_5), (3, .int i_9), (0, .ref m0)]) hx hb dX8_word_115 hl (k := 2) rfl ex_20.symm (by decide) rfl (fun ls hl => ?_)
                  refine lv_goto (tgt := 106) hx hb dX8_word_118 (by decide) ?_
                  exact ih_106 x_20 _ _ _ (hP.sub [0, 1, 2] rfl) (hD.sub [0, 1, 2] (by decide) rfl) hS (lv_sub hl [1, 2, 0, 3] rfl) (show ((zBg i_9.toInt.toNat : Nat) : Int) ≤ x_20.toInt ∧ x_20.toInt ≤ (zEn i_9.toInt.toNat : Nat) from by exact ⟨by omega, by omega⟩) (dw_lo hloi_106 qx_20) (dw_hn hni_106 qx_20)
          · have fc_9 : x_8.toInt = 0 := zf_eq c_9 rfl (by decide)
            refine lv_aload_n hx hb dX8_word_85 rfl (lv_at hl 5 rfl) ?_
            refine lv_iload hx hb dX8_word_86 (lv_at hl 1 rfl) ?_
            refine va_put (D := D) (ci := 8) (v := .int v_5) (ty := .int) (C := RX8) (T := TX8) (N := 38) hx hb hts hi_X8_word_8 tyX8 tyX8_ok nmX8 hown hK hP hD hS 0 rfl rfl 27 (by decide) (hts (.fieldLink RX8 152 "TheLiningsInItModel" "place" "I") (List.mem_of_getElem? (i := 1) rfl)) (fun _ h9 => h9) rfl (tyX8_ok 27 (Nat.le_of_ble_eq_true rfl)) rfl rfl (Nat.le_of_ble_eq_true rfl) dX8_word_88 (fun H locs hP hD hS => ?_)
            have h9R := zRe (ws' := [(zMO m0 npu nte nat_ nde nto nse nhu nga nsd nfa mrf mki mpa mta mla msl mco mhe mso msi msh mce mca mwo mnu mte nba v_5 nen nnu nwr mwa mke mma mth mtr nra nik), (mwo, .inl (cI, 64, .inl gwo)), (mce, .inl (cJ, 1280, .inr (.inl gce)))]) hP hD rfl
            clear hP hD
            obtain ⟨hP, hD⟩ := h9R
            refine lv_iload_n hx hb dX8_word_91 rfl (lv_at hl 2 rfl) ?_
            exact W.iret (v := i_9) hx hb hr (fun t ht hW => ⟨⟨i_9, (v_5, nwr), rfl, ⟨(show 0 ≤ v_5.toInt ∧ v_5.toInt ≤ 160 from hbv_5), (show npl.toInt ≤ v_5.toInt ∧ v_5.toInt ≤ nen.toInt from by exact ⟨by omega, by omega⟩), (show ((zFst (zMF gce nba.toInt) nen.toInt npl.toInt zBls 10 = -1 ∧ (i_9 : Int32).toInt = -1 ∧ nwr.toInt = npl.toInt + (zMx (zMF gce nba.toInt) nen.toInt npl.toInt zBls 10 : Nat)) ∨ (zFst (zMF gce nba.toInt) nen.toInt npl.toInt zBls 10 = (i_9 : Int32).toInt ∧ 0 ≤ (i_9 : Int32).toInt ∧ v_5.toInt = npl.toInt + ((zBls (i_9 : Int32).toInt.toNat).length : Nat))) from by (have z := zFst_hit hvi_9_1 (by omega) (by rw [hLC]; omega); exact Or.inr ⟨by omega, by omega, by omega⟩)), ⟨by omega, by omega⟩⟩, zRet ht hP hD [0, 1, 2] (by decide) rfl⟩, hS.F ht⟩) hS.2.2 dX8_word_92
        · have fc_7 : x_6.toInt ≠ 0 := zf_ne c_7 rfl (by decide)
          refine lv_iload hx hb dX8_word_34 (lv_at hl 1 rfl) ?_
          refine lv_aload_n hx hb dX8_word_36 rfl (lv_at hl 5 rfl) ?_
          refine va_get (D := D) (ci := 8) (v := .int nen) (C := RX8) (T := TX8) (N := 38) hx hb hts hi_X8_word_8 hown hK hP 0 rfl rfl 28 (by decide) (hts (.fieldLink RX8 155 "TheLiningsInItModel" "end" "I") (List.mem_of_getElem? (i := 3) rfl)) (fun _ h9 => h9) rfl dX8_word_37 ?_
          refine lv_icmp_ge (tgt := 75) hx hb dX8_word_40 (by decide) (fun c_21 => ?_) (fun c_21 => ?_)
          · have fc_21 : nen.toInt ≤ v_5.toInt := zf_le c_21 rfl rfl
            have hLC : zLc (zMF gce nba.toInt) nen.toInt npl.toInt (zBls i_9.toInt.toNat) = (i_24.toInt.toNat - zBg i_9.toInt.toNat) := zMW_lc hwo (by omega) (by omega) hvi_24_2 (by omega) (by first | exact Or.inl (by omega) | exact Or.inr (fun h => by (have z1 := h.1; omega)))
            obtain ⟨hWB, -⟩ := zWoB i_9.toInt.toNat (by omega)
            refine lv_aload_n hx hb dX8_word_75 rfl (lv_at hl 5 rfl) ?_
            refine va_get (D := D) (ci := 8) (v := .ref mwo) (C := RX8) (T := TX8) (N := 38) hx hb hts hi_X8_word_8 hown hK hP 0 rfl rfl 23 (by decide) (hts (.fieldLink RX8 66 "TheLiningsInItModel" "words" "[I") (List.mem_of_getElem? (i := 2) rfl)) (fun _ h9 => h9) rfl dX8_word_76 ?_
            refine lv_iload hx hb dX8_word_79 (lv_at hl 0 rfl) ?_
            refine va_iald hx hb hK hP 1 0 rfl rfl (zf_in (by omega) (by omega)) dX8_word_81 ?_
            refine lv_topi (fun x_22 ex_22 => ?_)
            have hzx_22 : x_22.toInt = 0 ↔ i_24.toInt.toNat = zEn i_9.toInt.toNat := by rw [ex_22]; exact zWo_rd (c := i_24.toInt.toNat) hwo (by omega) (by omega) (by omega)
            refine lv_if_ne (tgt := 93) hx hb dX8_word_82 (by decide) (fun c_23 => ?_) (fun c_23 => ?_)
            · have fc_23 : x_22.toInt ≠ 0 := zf_ne c_23 rfl (by decide)
              refine lv_iload hx hb dX8_word_93 (lv_at hl 1 rfl) ?_
              refine lv_iload_n hx hb dX8_word_95 rfl (lv_at hl 3 rfl) ?_
              refine lv_icmp_le (tgt := 104) hx hb dX8_word_96 (by decide) (fun c_24 => ?_) (fun c_24 => ?_)
              · have fc_24 : v_5.toInt ≤ v_2.toInt := zf_le c_24 rfl rfl
                refine lv_iload_n hx hb dX8_word_104 rfl (lv_at hl 3 rfl) ?_
                refine lv_istore_n (lv' := [(2, .int v_2), (5, .int i_24), (4, .int v_5), (3, .int i_9), (1, .int v_1), (0, .ref m0)]) hx hb dX8_word_105 rfl hl (by decide) rfl (fun ls hl => ?_)
                obtain ⟨i_106, hi_106⟩ : ∃ i : Int32, i = v_1 := ⟨_, rfl⟩
                replace hl : lv_has ls 6 [(2, .int v_2), (3, .int i_9), (1, .int i_106), (0, .ref m0)] := by rw [hi_106]; exact lv_sub hl [0, 3, 4, 5] rfl
                have h1i_106 : i_106.toInt = v_1.toInt := by rw [hi_106]
                obtain ⟨nfu_106, hni_106⟩ : ∃ nq9 : Nat, 64 ≤ i_106.toInt + (nq9 : Int) := ⟨((64 : Int) - v_1.toInt).toNat, by omega⟩
                have hloi_106 : 0 ≤ i_106.toInt := by omega
                have hvi_106_0 : ((zBg i_9.toInt.toNat : Nat) : Int) ≤ i_106.toInt ∧ i_106.toInt ≤ (zEn i_9.toInt.toNat : Nat) := by
                  (try rw [hi_106]); exact ⟨by omega, by omega⟩
                clear h1i_106 hi_106
                skip
                revert hni_106
                revert hloi_106
                revert hvi_106_0
                revert hl
                revert hS
                revert hD
                revert hP
                revert ls
                revert locs
                revert H
                revert i_106
                induction nfu_106 with
                | zero =>
                  intro i_106 H locs ls hP hD hS hl hvi_106_0 hloi_106 hni_106
                  exfalso; omega
                | succ nfu_106 ih_106 =>
                  intro i_106 H locs ls hP hD hS hl hvi_106_0 hloi_106 hni_106
                  refine lv_aload_n hx hb dX8_word_106 rfl (lv_at hl 3 rfl) ?_
                  refine va_get (D := D) (ci := 8) (v := .ref mwo) (C := RX8) (T := TX8) (N := 38) hx hb hts hi_X8_word_8 hown hK hP 0 rfl rfl 23 (by decide) (hts (.fieldLink RX8 66 "TheLiningsInItModel" "words" "[I") (List.mem_of_getElem? (i := 2) rfl)) (fun _ h9 => h9) rfl dX8_word_107 ?_
                  refine lv_iload_n hx hb dX8_word_110 rfl (lv_at hl 2 rfl) ?_
                  refine va_iald hx hb hK hP 1 0 rfl rfl (zf_in (by omega) (by omega)) dX8_word_111 ?_
                  refine lv_topi (fun x_25 ex_25 => ?_)
                  have hzx_25 : x_25.toInt = 0 ↔ i_106.toInt.toNat = zEn i_9.toInt.toNat := by rw [ex_25]; exact zWo_rd (c := i_106.toInt.toNat) hwo (by omega) (by omega) (by omega)
                  refine lv_if_eq (tgt := 121) hx hb dX8_word_112 (by decide) (fun c_26 => ?_) (fun c_26 => ?_)
                  · have fc_26 : x_25.toInt = 0 := zf_eq c_26 rfl (by decide)
                    obtain ⟨x_27, ex_27⟩ : ∃ y : Int32, y = i_106 + 1 := ⟨_, rfl⟩
                    have qx_27 : x_27.toInt = i_106.toInt + 1 := by rw [ex_27]; exact zf_add rfl (by decide) (by omega) (by omega)
                    refine lv_iinc (v := x_27) (lv' := [(1, .int x_27), (2, .int v_2), (3, .int i_9), (0, .ref m0)]) hx hb dX8_word_121 hl (k := 2) rfl ex_27.symm (by decide) rfl (fun ls hl => ?_)
                    obtain ⟨x_28, ex_28⟩ : ∃ y : Int32, y = i_9 + 1 := ⟨_, rfl⟩
                    have qx_28 : x_28.toInt = i_9.toInt + 1 := dw_incK ex_28 fc_4 (by decide)
                    refine lv_iinc (v := x_28) (lv' := [(3, .int x_28), (1, .int x_27), (2, .int v_2), (0, .ref m0)]) hx hb dX8_word_124 hl (k := 2) rfl ex_28.symm (by decide) rfl (fun ls hl => ?_)
                    refine lv_goto (tgt := 9) hx hb dX8_word_127 (by decide) ?_
                    exact ih x_28 x_27 v_2 _ _ _ (hP.sub [0, 1, 2] rfl) (hD.sub [0, 1, 2] (by decide) rfl) hS (lv_sub hl [0, 2, 1, 3] rfl) ⟨by omega, by omega⟩ hbv_2 (show (x_27 : Int32).toInt = (zBg x_28.toInt.toNat : Nat) from by (rw [show x_28.toInt.toNat = i_9.toInt.toNat + 1 from by omega]; omega)) (show zFst (zMF gce nba.toInt) nen.toInt npl.toInt zBls x_28.toInt.toNat = -1 from by exact zFst_no hvi_9_1 hLC (by omega) (by omega)) (show (v_2 : Int32).toInt = npl.toInt + (zMx (zMF gce nba.toInt) nen.toInt npl.toInt zBls x_28.toInt.toNat : Nat) from by exact zMx_to hvi_9_2 hLC (by omega) (by omega)) (show x_28.toInt ≤ 10 from by omega) (dw_lo hloi_9 qx_28) (dw_hn hni_9 qx_28)
                  · have fc_26 : x_25.toInt ≠ 0 := zf_ne c_26 rfl (by decide)
                    obtain ⟨x_29, ex_29⟩ : ∃ y : Int32, y = i_106 + 1 := ⟨_, rfl⟩
                    have qx_29 : x_29.toInt = i_106.toInt + 1 := by rw [ex_29]; exact zf_add rfl (by decide) (by omega) (by omega)
                    refine lv_iinc (v := x_29) (lv' := [(1, .int x_29), (2, .int v_2), (3, .int i_9), (0, .ref m0)]) hx hb dX8_word_115 hl (k := 2) rfl ex_29.symm (by decide) rfl (fun ls hl => ?_)
                    refine lv_goto (tgt := 106) hx hb dX8_word_118 (by decide) ?_
                    exact ih_106 x_29 _ _ _ (hP.sub [0, 1, 2] rfl) (hD.sub [0, 1, 2] (by decide) rfl) hS (lv_sub hl [1, 2, 0, 3] rfl) (show ((zBg i_9.toInt.toNat : Nat) : Int) ≤ x_29.toInt ∧ x_29.toInt ≤ (zEn i_9.toInt.toNat : Nat) from by exact ⟨by omega, by omega⟩) (dw_lo hloi_106 qx_29) (dw_hn hni_106 qx_29)
              · have fc_24 : v_2.toInt < v_5.toInt := zf_nle c_24 rfl rfl
                refine lv_iload hx hb dX8_word_99 (lv_at hl 1 rfl) ?_
                refine lv_goto (tgt := 105) hx hb dX8_word_101 (by decide) ?_
                refine lv_istore_n (lv' := [(2, .int v_5), (5, .int i_24), (4, .int v_5), (3, .int i_9), (1, .int v_1), (0, .ref m0)]) hx hb dX8_word_105 rfl hl (by decide) rfl (fun ls hl => ?_)
                obtain ⟨i_106, hi_106⟩ : ∃ i : Int32, i = v_1 := ⟨_, rfl⟩
                replace hl : lv_has ls 6 [(2, .int v_5), (3, .int i_9), (1, .int i_106), (0, .ref m0)] := by rw [hi_106]; exact lv_sub hl [0, 3, 4, 5] rfl
                have h1i_106 : i_106.toInt = v_1.toInt := by rw [hi_106]
                obtain ⟨nfu_106, hni_106⟩ : ∃ nq9 : Nat, 64 ≤ i_106.toInt + (nq9 : Int) := ⟨((64 : Int) - v_1.toInt).toNat, by omega⟩
                have hloi_106 : 0 ≤ i_106.toInt := by omega
                have hvi_106_0 : ((zBg i_9.toInt.toNat : Nat) : Int) ≤ i_106.toInt ∧ i_106.toInt ≤ (zEn i_9.toInt.toNat : Nat) := by
                  (try rw [hi_106]); exact ⟨by omega, by omega⟩
                clear h1i_106 hi_106
                skip
                revert hni_106
                revert hloi_106
                revert hvi_106_0
                revert hl
                revert hS
                revert hD
                revert hP
                revert ls
                revert locs
                revert H
                revert i_106
                induction nfu_106 with
                | zero =>
                  intro i_106 H locs ls hP hD hS hl hvi_106_0 hloi_106 hni_106
                  exfalso; omega
                | succ nfu_106 ih_106 =>
                  intro i_106 H locs ls hP hD hS hl hvi_106_0 hloi_106 hni_106
                  refine lv_aload_n hx hb dX8_word_106 rfl (lv_at hl 3 rfl) ?_
                  refine va_get (D := D) (ci := 8) (v := .ref mwo) (C := RX8) (T := TX8) (N := 38) hx hb hts hi_X8_word_8 hown hK hP 0 rfl rfl 23 (by decide) (hts (.fieldLink RX8 66 "TheLiningsInItModel" "words" "[I") (List.mem_of_getElem? (i := 2) rfl)) (fun _ h9 => h9) rfl dX8_word_107 ?_
                  refine lv_iload_n hx hb dX8_word_110 rfl (lv_at hl 2 rfl) ?_
                  refine va_iald hx hb hK hP 1 0 rfl rfl (zf_in (by omega) (by omega)) dX8_word_111 ?_
                  refine lv_topi (fun x_30 ex_30 => ?_)
                  have hzx_30 : x_30.toInt = 0 ↔ i_106.toInt.toNat = zEn i_9.toInt.toNat := by rw [ex_30]; exact zWo_rd (c := i_106.toInt.toNat) hwo (by omega) (by omega) (by omega)
                  refine lv_if_eq (tgt := 121) hx hb dX8_word_112 (by decide) (fun c_31 => ?_) (fun c_31 => ?_)
                  · have fc_31 : x_30.toInt = 0 := zf_eq c_31 rfl (by decide)
                    obtain ⟨x_32, ex_32⟩ : ∃ y : Int32, y = i_106 + 1 := ⟨_, rfl⟩
                    have qx_32 : x_32.toInt = i_106.toInt + 1 := by rw [ex_32]; exact zf_add rfl (by decide) (by omega) (by omega)
                    refine lv_iinc (v := x_32) (lv' := [(1, .int x_32), (2, .int v_5), (3, .int i_9), (0, .ref m0)]) hx hb dX8_word_121 hl (k := 2) rfl ex_32.symm (by decide) rfl (fun ls hl => ?_)
                    obtain ⟨x_33, ex_33⟩ : ∃ y : Int32, y = i_9 + 1 := ⟨_, rfl⟩
                    have qx_33 : x_33.toInt = i_9.toInt + 1 := dw_incK ex_33 fc_4 (by decide)
                    refine lv_iinc (v := x_33) (lv' := [(3, .int x_33), (1, .int x_32), (2, .int v_5), (0, .ref m0)]) hx hb dX8_word_124 hl (k := 2) rfl ex_33.symm (by decide) rfl (fun ls hl => ?_)
                    refine lv_goto (tgt := 9) hx hb dX8_word_127 (by decide) ?_
                    exact ih x_33 x_32 v_5 _ _ _ (hP.sub [0, 1, 2] rfl) (hD.sub [0, 1, 2] (by decide) rfl) hS (lv_sub hl [0, 2, 1, 3] rfl) ⟨by omega, by omega⟩ hbv_5 (show (x_32 : Int32).toInt = (zBg x_33.toInt.toNat : Nat) from by (rw [show x_33.toInt.toNat = i_9.toInt.toNat + 1 from by omega]; omega)) (show zFst (zMF gce nba.toInt) nen.toInt npl.toInt zBls x_33.toInt.toNat = -1 from by exact zFst_no hvi_9_1 hLC (by omega) (by omega)) (show (v_5 : Int32).toInt = npl.toInt + (zMx (zMF gce nba.toInt) nen.toInt npl.toInt zBls x_33.toInt.toNat : Nat) from by exact zMx_to hvi_9_2 hLC (by omega) (by omega)) (show x_33.toInt ≤ 10 from by omega) (dw_lo hloi_9 qx_33) (dw_hn hni_9 qx_33)
                  · have fc_31 : x_30.toInt ≠ 0 := zf_ne c_31 rfl (by decide)
                    obtain ⟨x_34, ex_34⟩ : ∃ y : Int32, y = i_106 + 1 := ⟨_, rfl⟩
                    have qx_34 : x_34.toInt = i_106.toInt + 1 := by rw [ex_34]; exact zf_add rfl (by decide) (by omega) (by omega)
                    refine lv_iinc (v := x_34) (lv' := [(1, .int x_34), (2, .int v_5), (3, .int i_9), (0, .ref m0)]) hx hb dX8_word_115 hl (k := 2) rfl ex_34.symm (by decide) rfl (fun ls hl => ?_)
                    refine lv_goto (tgt := 106) hx hb dX8_word_118 (by decide) ?_
                    exact ih_106 x_34 _ _ _ (hP.sub [0, 1, 2] rfl) (hD.sub [0, 1, 2] (by decide) rfl) hS (lv_sub hl [1, 2, 0, 3] rfl) (show ((zBg i_9.toInt.toNat : Nat) : Int) ≤ x_34.toInt ∧ x_34.toInt ≤ (zEn i_9.toInt.toNat : Nat) from by exact ⟨by omega, by omega⟩) (dw_lo hloi_106 qx_34) (dw_hn hni_106 qx_34)
            · have fc_23 : x_22.toInt = 0 := zf_eq c_23 rfl (by decide)
              refine lv_aload_n hx hb dX8_word_85 rfl (lv_at hl 5 rfl) ?_
              refine lv_iload hx hb dX8_word_86 (lv_at hl 1 rfl) ?_
              refine va_put (D := D) (ci := 8) (v := .int v_5) (ty := .int) (C := RX8) (T := TX8) (N := 38) hx hb hts hi_X8_word_8 tyX8 tyX8_ok nmX8 hown hK hP hD hS 0 rfl rfl 27 (by decide) (hts (.fieldLink RX8 152 "TheLiningsInItModel" "place" "I") (List.mem_of_getElem? (i := 1) rfl)) (fun _ h9 => h9) rfl (tyX8_ok 27 (Nat.le_of_ble_eq_true rfl)) rfl rfl (Nat.le_of_ble_eq_true rfl) dX8_word_88 (fun H locs hP hD hS => ?_)
              have h9R := zRe (ws' := [(zMO m0 npu nte nat_ nde nto nse nhu nga nsd nfa mrf mki mpa mta mla msl mco mhe mso msi msh mce mca mwo mnu mte nba v_5 nen nnu nwr mwa mke mma mth mtr nra nik), (mwo, .inl (cI, 64, .inl gwo)), (mce, .inl (cJ, 1280, .inr (.inl gce)))]) hP hD rfl
              clear hP hD
              obtain ⟨hP, hD⟩ := h9R
              refine lv_iload_n hx hb dX8_word_91 rfl (lv_at hl 2 rfl) ?_
              exact W.iret (v := i_9) hx hb hr (fun t ht hW => ⟨⟨i_9, (v_5, nwr), rfl, ⟨(show 0 ≤ v_5.toInt ∧ v_5.toInt ≤ 160 from hbv_5), (show npl.toInt ≤ v_5.toInt ∧ v_5.toInt ≤ nen.toInt from by exact ⟨by omega, by omega⟩), (show ((zFst (zMF gce nba.toInt) nen.toInt npl.toInt zBls 10 = -1 ∧ (i_9 : Int32).toInt = -1 ∧ nwr.toInt = npl.toInt + (zMx (zMF gce nba.toInt) nen.toInt npl.toInt zBls 10 : Nat)) ∨ (zFst (zMF gce nba.toInt) nen.toInt npl.toInt zBls 10 = (i_9 : Int32).toInt ∧ 0 ≤ (i_9 : Int32).toInt ∧ v_5.toInt = npl.toInt + ((zBls (i_9 : Int32).toInt.toNat).length : Nat))) from by (have z := zFst_hit hvi_9_1 (by omega) (by rw [hLC]; omega); exact Or.inr ⟨by omega, by omega, by omega⟩)), ⟨by omega, by omega⟩⟩, zRet ht hP hD [0, 1, 2] (by decide) rfl⟩, hS.F ht⟩) hS.2.2 dX8_word_92
          · have fc_21 : v_5.toInt < nen.toInt := zf_nle c_21 rfl rfl
            refine lv_aload_n hx hb dX8_word_43 rfl (lv_at hl 5 rfl) ?_
            refine va_get (D := D) (ci := 8) (v := .ref mce) (C := RX8) (T := TX8) (N := 38) hx hb hts hi_X8_word_8 hown hK hP 0 rfl rfl 21 (by decide) (hts (.fieldLink RX8 59 "TheLiningsInItModel" "cells" "[J") (List.mem_of_getElem? (i := 4) rfl)) (fun _ h9 => h9) rfl dX8_word_44 ?_
            refine lv_aload_n hx hb dX8_word_47 rfl (lv_at hl 5 rfl) ?_
            refine va_get (D := D) (ci := 8) (v := .int nba) (C := RX8) (T := TX8) (N := 38) hx hb hts hi_X8_word_8 hown hK hP 0 rfl rfl 26 (by decide) (hts (.fieldLink RX8 158 "TheLiningsInItModel" "base" "I") (List.mem_of_getElem? (i := 5) rfl)) (fun _ h9 => h9) rfl dX8_word_48 ?_
            refine lv_iload hx hb dX8_word_51 (lv_at hl 1 rfl) ?_
            refine lv_iadd hx hb dX8_word_53 ?_
            refine lv_topi (fun x_35 ex_35 => ?_)
            have qx_35 : x_35.toInt = nba.toInt + v_5.toInt := by rw [ex_35]; exact zf_add rfl rfl (by omega) (by omega)
            refine va_lald hx hb hK hP 2 1 rfl rfl (zf_in (by omega) (by omega)) dX8_word_54 ?_
            refine lv_topl (fun x_36 ex_36 => ?_)
            refine lv_l2i hx hb dX8_word_55 rfl ?_
            refine lv_topi (fun x_37 ex_37 => ?_)
            have hcx_37 : x_37 = zChX gce (nba.toInt + v_5.toInt).toNat := by rw [ex_37, ex_36]; unfold zChX; congr 2; (show x_35.toInt.toNat = _; omega)
            have hdx_37 : x_37.toInt = (zChX gce (nba.toInt + v_5.toInt).toNat).toInt := by rw [hcx_37]
            refine lv_aload_n hx hb dX8_word_56 rfl (lv_at hl 5 rfl) ?_
            refine va_get (D := D) (ci := 8) (v := .ref mwo) (C := RX8) (T := TX8) (N := 38) hx hb hts hi_X8_word_8 hown hK hP 0 rfl rfl 23 (by decide) (hts (.fieldLink RX8 66 "TheLiningsInItModel" "words" "[I") (List.mem_of_getElem? (i := 2) rfl)) (fun _ h9 => h9) rfl dX8_word_57 ?_
            refine lv_iload hx hb dX8_word_60 (lv_at hl 0 rfl) ?_
            refine va_iald hx hb hK hP 1 0 rfl rfl (zf_in (by omega) (by omega)) dX8_word_62 ?_
            refine lv_topi (fun x_38 ex_38 => ?_)
            have hzx_38 : x_38.toInt = 0 ↔ i_24.toInt.toNat = zEn i_9.toInt.toNat := by rw [ex_38]; exact zWo_rd (c := i_24.toInt.toNat) hwo (by omega) (by omega) (by omega)
            refine lv_icmp_ne (tgt := 75) hx hb dX8_word_63 (by decide) (fun c_39 => ?_) (fun c_39 => ?_)
            · have fc_39 : x_37.toInt ≠ x_38.toInt := zf_ne c_39 rfl rfl
              have hLC : zLc (zMF gce nba.toInt) nen.toInt npl.toInt (zBls i_9.toInt.toNat) = (i_24.toInt.toNat - zBg i_9.toInt.toNat) := zMW_lc hwo (by omega) (by omega) hvi_24_2 (by omega) (by first | exact Or.inl (by omega) | exact Or.inr (fun h => by (have z1 := h.1; omega)) | exact Or.inr (fun h => fc_39 (congrArg Int32.toInt (show x_37 = x_38 from by (rw [hcx_37, ex_38, show (v_5 : Int32).toInt = npl.toInt + ((i_24.toInt.toNat - zBg i_9.toInt.toNat) : Nat) from by omega]; exact h.2.trans (by congr 1; (show _ = i_24.toInt.toNat; omega)))))))
              obtain ⟨hWB, -⟩ := zWoB i_9.toInt.toNat (by omega)
              refine lv_aload_n hx hb dX8_word_75 rfl (lv_at hl 5 rfl) ?_
              refine va_get (D := D) (ci := 8) (v := .ref mwo) (C := RX8) (T := TX8) (N := 38) hx hb hts hi_X8_word_8 hown hK hP 0 rfl rfl 23 (by decide) (hts (.fieldLink RX8 66 "TheLiningsInItModel" "words" "[I") (List.mem_of_getElem? (i := 2) rfl)) (fun _ h9 => h9) rfl dX8_word_76 ?_
              refine lv_iload hx hb dX8_word_79 (lv_at hl 0 rfl) ?_
              refine va_iald hx hb hK hP 1 0 rfl rfl (zf_in (by omega) (by omega)) dX8_word_81 ?_
              refine lv_topi (fun x_40 ex_40 => ?_)
              have hzx_40 : x_40.toInt = 0 ↔ i_24.toInt.toNat = zEn i_9.toInt.toNat := by rw [ex_40]; exact zWo_rd (c := i_24.toInt.toNat) hwo (by omega) (by omega) (by omega)
              refine lv_if_ne (tgt := 93) hx hb dX8_word_82 (by decide) (fun c_41 => ?_) (fun c_41 => ?_)
              · have fc_41 : x_40.toInt ≠ 0 := zf_ne c_41 rfl (by decide)
                refine lv_iload hx hb dX8_word_93 (lv_at hl 1 rfl) ?_
                refine lv_iload_n hx hb dX8_word_95 rfl (lv_at hl 3 rfl) ?_
                refine lv_icmp_le (tgt := 104) hx hb dX8_word_96 (by decide) (fun c_42 => ?_) (fun c_42 => ?_)
                · have fc_42 : v_5.toInt ≤ v_2.toInt := zf_le c_42 rfl rfl
                  refine lv_iload_n hx hb dX8_word_104 rfl (lv_at hl 3 rfl) ?_
                  refine lv_istore_n (lv' := [(2, .int v_2), (5, .int i_24), (4, .int v_5), (3, .int i_9), (1, .int v_1), (0, .ref m0)]) hx hb dX8_word_105 rfl hl (by decide) rfl (fun ls hl => ?_)
                  obtain ⟨i_106, hi_106⟩ : ∃ i : Int32, i = v_1 := ⟨_, rfl⟩
                  replace hl : lv_has ls 6 [(2, .int v_2), (3, .int i_9), (1, .int i_106), (0, .ref m0)] := by rw [hi_106]; exact lv_sub hl [0, 3, 4, 5] rfl
                  have h1i_106 : i_106.toInt = v_1.toInt := by rw [hi_106]
                  obtain ⟨nfu_106, hni_106⟩ : ∃ nq9 : Nat, 64 ≤ i_106.toInt + (nq9 : Int) := ⟨((64 : Int) - v_1.toInt).toNat, by omega⟩
                  have hloi_106 : 0 ≤ i_106.toInt := by omega
                  have hvi_106_0 : ((zBg i_9.toInt.toNat : Nat) : Int) ≤ i_106.toInt ∧ i_106.toInt ≤ (zEn i_9.toInt.toNat : Nat) := by
                    (try rw [hi_106]); exact ⟨by omega, by omega⟩
                  clear h1i_106 hi_106
                  skip
                  revert hni_106
                  revert hloi_106
                  revert hvi_106_0
                  revert hl
                  revert hS
                  revert hD
                  revert hP
                  revert ls
                  revert locs
                  revert H
                  revert i_106
                  induction nfu_106 with
                  | zero =>
                    intro i_106 H locs ls hP hD hS hl hvi_106_0 hloi_106 hni_106
                    exfalso; omega
                  | succ nfu_106 ih_106 =>
                    intro i_106 H locs ls hP hD hS hl hvi_106_0 hloi_106 hni_106
                    refine lv_aload_n hx hb dX8_word_106 rfl (lv_at hl 3 rfl) ?_
                    refine va_get (D := D) (ci := 8) (v := .ref mwo) (C := RX8) (T := TX8) (N := 38) hx hb hts hi_X8_word_8 hown hK hP 0 rfl rfl 23 (by decide) (hts (.fieldLink RX8 66 "TheLiningsInItModel" "words" "[I") (List.mem_of_getElem? (i := 2) rfl)) (fun _ h9 => h9) rfl dX8_word_107 ?_
                    refine lv_iload_n hx hb dX8_word_110 rfl (lv_at hl 2 rfl) ?_
                    refine va_iald hx hb hK hP 1 0 rfl rfl (zf_in (by omega) (by omega)) dX8_word_111 ?_
                    refine lv_topi (fun x_43 ex_43 => ?_)
                    have hzx_43 : x_43.toInt = 0 ↔ i_106.toInt.toNat = zEn i_9.toInt.toNat := by rw [ex_43]; exact zWo_rd (c := i_106.toInt.toNat) hwo (by omega) (by omega) (by omega)
                    refine lv_if_eq (tgt := 121) hx hb dX8_word_112 (by decide) (fun c_44 => ?_) (fun c_44 => ?_)
                    · have fc_44 : x_43.toInt = 0 := zf_eq c_44 rfl (by decide)
                      obtain ⟨x_45, ex_45⟩ : ∃ y : Int32, y = i_106 + 1 := ⟨_, rfl⟩
                      have qx_45 : x_45.toInt = i_106.toInt + 1 := by rw [ex_45]; exact zf_add rfl (by decide) (by omega) (by omega)
                      refine lv_iinc (v := x_45) (lv' := [(1, .int x_45), (2, .int v_2), (3, .int i_9), (0, .ref m0)]) hx hb dX8_word_121 hl (k := 2) rfl ex_45.symm (by decide) rfl (fun ls hl => ?_)
                      obtain ⟨x_46, ex_46⟩ : ∃ y : Int32, y = i_9 + 1 := ⟨_, rfl⟩
                      have qx_46 : x_46.toInt = i_9.toInt + 1 := dw_incK ex_46 fc_4 (by decide)
                      refine lv_iinc (v := x_46) (lv' := [(3, .int x_46), (1, .int x_45), (2, .int v_2), (0, .ref m0)]) hx hb dX8_word_124 hl (k := 2) rfl ex_46.symm (by decide) rfl (fun ls hl => ?_)
                      refine lv_goto (tgt := 9) hx hb dX8_word_127 (by decide) ?_
                      exact ih x_46 x_45 v_2 _ _ _ (hP.sub [0, 1, 2] rfl) (hD.sub [0, 1, 2] (by decide) rfl) hS (lv_sub hl [0, 2, 1, 3] rfl) ⟨by omega, by omega⟩ hbv_2 (show (x_45 : Int32).toInt = (zBg x_46.toInt.toNat : Nat) from by (rw [show x_46.toInt.toNat = i_9.toInt.toNat + 1 from by omega]; omega)) (show zFst (zMF gce nba.toInt) nen.toInt npl.toInt zBls x_46.toInt.toNat = -1 from by exact zFst_no hvi_9_1 hLC (by omega) (by omega)) (show (v_2 : Int32).toInt = npl.toInt + (zMx (zMF gce nba.toInt) nen.toInt npl.toInt zBls x_46.toInt.toNat : Nat) from by exact zMx_to hvi_9_2 hLC (by omega) (by omega)) (show x_46.toInt ≤ 10 from by omega) (dw_lo hloi_9 qx_46) (dw_hn hni_9 qx_46)
                    · have fc_44 : x_43.toInt ≠ 0 := zf_ne c_44 rfl (by decide)
                      obtain ⟨x_47, ex_47⟩ : ∃ y : Int32, y = i_106 + 1 := ⟨_, rfl⟩
                      have qx_47 : x_47.toInt = i_106.toInt + 1 := by rw [ex_47]; exact zf_add rfl (by decide) (by omega) (by omega)
                      refine lv_iinc (v := x_47) (lv' := [(1, .int x_47), (2, .int v_2), (3, .int i_9), (0, .ref m0)]) hx hb dX8_word_115 hl (k := 2) rfl ex_47.symm (by decide) rfl (fun ls hl => ?_)
                      refine lv_goto (tgt := 106) hx hb dX8_word_118 (by decide) ?_
                      exact ih_106 x_47 _ _ _ (hP.sub [0, 1, 2] rfl) (hD.sub [0, 1, 2] (by decide) rfl) hS (lv_sub hl [1, 2, 0, 3] rfl) (show ((zBg i_9.toInt.toNat : Nat) : Int) ≤ x_47.toInt ∧ x_47.toInt ≤ (zEn i_9.toInt.toNat : Nat) from by exact ⟨by omega, by omega⟩) (dw_lo hloi_106 qx_47) (dw_hn hni_106 qx_47)
                · have fc_42 : v_2.toInt < v_5.toInt := zf_nle c_42 rfl rfl
                  refine lv_iload hx hb dX8_word_99 (lv_at hl 1 rfl) ?_
                  refine lv_goto (tgt := 105) hx hb dX8_word_101 (by decide) ?_
                  refine lv_istore_n (lv' := [(2, .int v_5), (5, .int i_24), (4, .int v_5), (3, .int i_9), (1, .int v_1), (0, .ref m0)]) hx hb dX8_word_105 rfl hl (by decide) rfl (fun ls hl => ?_)
                  obtain ⟨i_106, hi_106⟩ : ∃ i : Int32, i = v_1 := ⟨_, rfl⟩
                  replace hl : lv_has ls 6 [(2, .int v_5), (3, .int i_9), (1, .int i_106), (0, .ref m0)] := by rw [hi_106]; exact lv_sub hl [0, 3, 4, 5] rfl
                  have h1i_106 : i_106.toInt = v_1.toInt := by rw [hi_106]
                  obtain ⟨nfu_106, hni_106⟩ : ∃ nq9 : Nat, 64 ≤ i_106.toInt + (nq9 : Int) := ⟨((64 : Int) - v_1.toInt).toNat, by omega⟩
                  have hloi_106 : 0 ≤ i_106.toInt := by omega
                  have hvi_106_0 : ((zBg i_9.toInt.toNat : Nat) : Int) ≤ i_106.toInt ∧ i_106.toInt ≤ (zEn i_9.toInt.toNat : Nat) := by
                    (try rw [hi_106]); exact ⟨by omega, by omega⟩
                  clear h1i_106 hi_106
                  skip
                  revert hni_106
                  revert hloi_106
                  revert hvi_106_0
                  revert hl
                  revert hS
                  revert hD
                  revert hP
                  revert ls
                  revert locs
                  revert H
                  revert i_106
                  induction nfu_106 with
                  | zero =>
                    intro i_106 H locs ls hP hD hS hl hvi_106_0 hloi_106 hni_106
                    exfalso; omega
                  | succ nfu_106 ih_106 =>
                    intro i_106 H locs ls hP hD hS hl hvi_106_0 hloi_106 hni_106
                    refine lv_aload_n hx hb dX8_word_106 rfl (lv_at hl 3 rfl) ?_
                    refine va_get (D := D) (ci := 8) (v := .ref mwo) (C := RX8) (T := TX8) (N := 38) hx hb hts hi_X8_word_8 hown hK hP 0 rfl rfl 23 (by decide) (hts (.fieldLink RX8 66 "TheLiningsInItModel" "words" "[I") (List.mem_of_getElem? (i := 2) rfl)) (fun _ h9 => h9) rfl dX8_word_107 ?_
                    refine lv_iload_n hx hb dX8_word_110 rfl (lv_at hl 2 rfl) ?_
                    refine va_iald hx hb hK hP 1 0 rfl rfl (zf_in (by omega) (by omega)) dX8_word_111 ?_
                    refine lv_topi (fun x_48 ex_48 => ?_)
                    have hzx_48 : x_48.toInt = 0 ↔ i_106.toInt.toNat = zEn i_9.toInt.toNat := by rw [ex_48]; exact zWo_rd (c := i_106.toInt.toNat) hwo (by omega) (by omega) (by omega)
                    refine lv_if_eq (tgt := 121) hx hb dX8_word_112 (by decide) (fun c_49 => ?_) (fun c_49 => ?_)
                    · have fc_49 : x_48.toInt = 0 := zf_eq c_49 rfl (by decide)
                      obtain ⟨x_50, ex_50⟩ : ∃ y : Int32, y = i_106 + 1 := ⟨_, rfl⟩
                      have qx_50 : x_50.toInt = i_106.toInt + 1 := by rw [ex_50]; exact zf_add rfl (by decide) (by omega) (by omega)
                      refine lv_iinc (v := x_50) (lv' := [(1, .int x_50), (2, .int v_5), (3, .int i_9), (0, .ref m0)]) hx hb dX8_word_121 hl (k := 2) rfl ex_50.symm (by decide) rfl (fun ls hl => ?_)
                      obtain ⟨x_51, ex_51⟩ : ∃ y : Int32, y = i_9 + 1 := ⟨_, rfl⟩
                      have qx_51 : x_51.toInt = i_9.toInt + 1 := dw_incK ex_51 fc_4 (by decide)
                      refine lv_iinc (v := x_51) (lv' := [(3, .int x_51), (1, .int x_50), (2, .int v_5), (0, .ref m0)]) hx hb dX8_word_124 hl (k := 2) rfl ex_51.symm (by decide) rfl (fun ls hl => ?_)
                      refine lv_goto (tgt := 9) hx hb dX8_word_127 (by decide) ?_
                      exact ih x_51 x_50 v_5 _ _ _ (hP.sub [0, 1, 2] rfl) (hD.sub [0, 1, 2] (by decide) rfl) hS (lv_sub hl [0, 2, 1, 3] rfl) ⟨by omega, by omega⟩ hbv_5 (show (x_50 : Int32).toInt = (zBg x_51.toInt.toNat : Nat) from by (rw [show x_51.toInt.toNat = i_9.toInt.toNat + 1 from by omega]; omega)) (show zFst (zMF gce nba.toInt) nen.toInt npl.toInt zBls x_51.toInt.toNat = -1 from by exact zFst_no hvi_9_1 hLC (by omega) (by omega)) (show (v_5 : Int32).toInt = npl.toInt + (zMx (zMF gce nba.toInt) nen.toInt npl.toInt zBls x_51.toInt.toNat : Nat) from by exact zMx_to hvi_9_2 hLC (by omega) (by omega)) (show x_51.toInt ≤ 10 from by omega) (dw_lo hloi_9 qx_51) (dw_hn hni_9 qx_51)
                    · have fc_49 : x_48.toInt ≠ 0 := zf_ne c_49 rfl (by decide)
                      obtain ⟨x_52, ex_52⟩ : ∃ y : Int32, y = i_106 + 1 := ⟨_, rfl⟩
                      have qx_52 : x_52.toInt = i_106.toInt + 1 := by rw [ex_52]; exact zf_add rfl (by decide) (by omega) (by omega)
                      refine lv_iinc (v := x_52) (lv' := [(1, .int x_52), (2, .int v_5), (3, .int i_9), (0, .ref m0)]) hx hb dX8_word_115 hl (k := 2) rfl ex_52.symm (by decide) rfl (fun ls hl => ?_)
                      refine lv_goto (tgt := 106) hx hb dX8_word_118 (by decide) ?_
                      exact ih_106 x_52 _ _ _ (hP.sub [0, 1, 2] rfl) (hD.sub [0, 1, 2] (by decide) rfl) hS (lv_sub hl [1, 2, 0, 3] rfl) (show ((zBg i_9.toInt.toNat : Nat) : Int) ≤ x_52.toInt ∧ x_52.toInt ≤ (zEn i_9.toInt.toNat : Nat) from by exact ⟨by omega, by omega⟩) (dw_lo hloi_106 qx_52) (dw_hn hni_106 qx_52)
              · have fc_41 : x_40.toInt = 0 := zf_eq c_41 rfl (by decide)
                refine lv_aload_n hx hb dX8_word_85 rfl (lv_at hl 5 rfl) ?_
                refine lv_iload hx hb dX8_word_86 (lv_at hl 1 rfl) ?_
                refine va_put (D := D) (ci := 8) (v := .int v_5) (ty := .int) (C := RX8) (T := TX8) (N := 38) hx hb hts hi_X8_word_8 tyX8 tyX8_ok nmX8 hown hK hP hD hS 0 rfl rfl 27 (by decide) (hts (.fieldLink RX8 152 "TheLiningsInItModel" "place" "I") (List.mem_of_getElem? (i := 1) rfl)) (fun _ h9 => h9) rfl (tyX8_ok 27 (Nat.le_of_ble_eq_true rfl)) rfl rfl (Nat.le_of_ble_eq_true rfl) dX8_word_88 (fun H locs hP hD hS => ?_)
                have h9R := zRe (ws' := [(zMO m0 npu nte nat_ nde nto nse nhu nga nsd nfa mrf mki mpa mta mla msl mco mhe mso msi msh mce mca mwo mnu mte nba v_5 nen nnu nwr mwa mke mma mth mtr nra nik), (mwo, .inl (cI, 64, .inl gwo)), (mce, .inl (cJ, 1280, .inr (.inl gce)))]) hP hD rfl
                clear hP hD
                obtain ⟨hP, hD⟩ := h9R
                refine lv_iload_n hx hb dX8_word_91 rfl (lv_at hl 2 rfl) ?_
                exact W.iret (v := i_9) hx hb hr (fun t ht hW => ⟨⟨i_9, (v_5, nwr), rfl, ⟨(show 0 ≤ v_5.toInt ∧ v_5.toInt ≤ 160 from hbv_5), (show npl.toInt ≤ v_5.toInt ∧ v_5.toInt ≤ nen.toInt from by exact ⟨by omega, by omega⟩), (show ((zFst (zMF gce nba.toInt) nen.toInt npl.toInt zBls 10 = -1 ∧ (i_9 : Int32).toInt = -1 ∧ nwr.toInt = npl.toInt + (zMx (zMF gce nba.toInt) nen.toInt npl.toInt zBls 10 : Nat)) ∨ (zFst (zMF gce nba.toInt) nen.toInt npl.toInt zBls 10 = (i_9 : Int32).toInt ∧ 0 ≤ (i_9 : Int32).toInt ∧ v_5.toInt = npl.toInt + ((zBls (i_9 : Int32).toInt.toNat).length : Nat))) from by (have z := zFst_hit hvi_9_1 (by omega) (by rw [hLC]; omega); exact Or.inr ⟨by omega, by omega, by omega⟩)), ⟨by omega, by omega⟩⟩, zRet ht hP hD [0, 1, 2] (by decide) rfl⟩, hS.F ht⟩) hS.2.2 dX8_word_92
            · have fc_39 : x_37.toInt = x_38.toInt := zf_eq c_39 rfl rfl
              obtain ⟨x_53, ex_53⟩ : ∃ y : Int32, y = v_5 + 1 := ⟨_, rfl⟩
              have qx_53 : x_53.toInt = v_5.toInt + 1 := dw_inc ex_53 fc_21
              refine lv_iinc (v := x_53) (lv' := [(4, .int x_53), (5, .int i_24), (3, .int i_9), (2, .int v_2), (1, .int v_1), (0, .ref m0)]) hx hb dX8_word_66 hl (k := 1) rfl ex_53.symm (by decide) rfl (fun ls hl => ?_)
              obtain ⟨x_54, ex_54⟩ : ∃ y : Int32, y = i_24 + 1 := ⟨_, rfl⟩
              have qx_54 : x_54.toInt = i_24.toInt + 1 := by rw [ex_54]; exact zf_add rfl (by decide) (by omega) (by omega)
              refine lv_iinc (v := x_54) (lv' := [(5, .int x_54), (4, .int x_53), (3, .int i_9), (2, .int v_2), (1, .int v_1), (0, .ref m0)]) hx hb dX8_word_69 hl (k := 1) rfl ex_54.symm (by decide) rfl (fun ls hl => ?_)
              refine lv_goto (tgt := 24) hx hb dX8_word_72 (by decide) ?_
              exact ih_24 x_54 x_53 _ _ _ (hP.sub [0, 1, 2] rfl) (hD.sub [0, 1, 2] (by decide) rfl) hS (lv_sub hl [0, 1, 2, 3, 4, 5] rfl) ⟨by omega, by omega⟩ (show ((zBg i_9.toInt.toNat : Nat) : Int) ≤ x_54.toInt ∧ x_54.toInt ≤ (zEn i_9.toInt.toNat : Nat) from by exact ⟨by omega, by omega⟩) (show (x_53 : Int32).toInt = npl.toInt + (x_54.toInt - (v_1 : Int32).toInt) ∧ (x_53 : Int32).toInt ≤ nen.toInt from by exact ⟨by omega, by omega⟩) (show zStN gce nba.toInt nen.toInt npl.toInt gwo (zBg i_9.toInt.toNat) (x_54.toInt.toNat - zBg i_9.toInt.toNat) from by exact zStN_S (y := x_37) (z := x_38) hvi_24_2 (by omega) (by omega) hcx_37 (by rw [ex_38]; congr 1; (show i_24.toInt.toNat = _; omega)) (by first | exact c_39 | exact Decidable.not_not.mp c_39) (by omega)) (dw_lo hloi_24 qx_54) (dw_hn hni_24 qx_54)
end
section
set_option maxHeartbeats 4000000 in
set_option maxRecDepth 100000 in
theorem c_F_M_wrong (l : Launch) (D : va_G) (cI cJ cZ cP cS : ClassId) (po : zPool) (m0 mrf mki mpa mta mla msl mco mhe mso msi msh mce mca mwo mnu mte mwa mke mma mth mtr : Nat) (npu nte nat_ nde nto nse nhu nga nsd nfa nba npl nen nnu nwr nra nik : Int32) (q : Int32) (hy0 : 0 ≤ npu.toInt) (hy1 : npu.toInt ≤ 8) (hy2 : 4 ≤ nte.toInt) (hy3 : nte.toInt ≤ 40) (hy4 : 0 ≤ nat_.toInt) (hy5 : nat_.toInt ≤ 40) (hy6 : 0 ≤ nde.toInt) (hy7 : nde.toInt ≤ 24) (hy8 : 0 ≤ nhu.toInt) (hy9 : nhu.toInt ≤ 9) (hy10 : 0 ≤ nra.toInt) (hy11 : nra.toInt ≤ 2000) (hy12 : 0 ≤ nik.toInt) (hy13 : nik.toInt ≤ 1) (hpz : Nat) : Met l yX8_wrong wsX8_wrong ({ frames := 0, cells := 0, slots := 0, locals := 0 }) (va_Pc [.ref m0, .int q] (zW D (zKT cI cJ cZ cP cS) po [(zMO m0 npu nte nat_ nde nto nse nhu nga nsd nfa mrf mki mpa mta mla msl mco mhe mso msi msh mce mca mwo mnu mte nba npl nen nnu nwr mwa mke mma mth mtr nra nik)] hpz)) (va_Qi (fun (r : Int32) (nwr2 : (Int32)) => (nwr2.toInt = q.toInt) ∧ (r = 0)) (zB D [(zMO m0 npu nte nat_ nde nto nse nhu nga nsd nfa mrf mki mpa mta mla msl mco mhe mso msi msh mce mca mwo mnu mte nba npl nen nnu nwr mwa mke mma mth mtr nra nik)] hpz (fun (nwr2 : Int32) => [(zMO m0 npu nte nat_ nde nto nse nhu nga nsd nfa mrf mki mpa mta mla msl mco mhe mso msi msh mce mca mwo mnu mte nba npl nen nnu nwr2 mwa mke mma mth mtr nra nik)])) (va_A [(zMO m0 npu nte nat_ nde nto nse nhu nga nsd nfa mrf mki mpa mta mla msl mco mhe mso msi msh mce mca mwo mnu mte nba npl nen nnu nwr mwa mke mma mth mtr nra nik)] hpz)) 0 0 (va_A [(zMO m0 npu nte nat_ nde nto nse nhu nga nsd nfa mrf mki mpa mta mla msl mco mhe mso msi msh mce mca mwo mnu mte nba npl nen nnu nwr mwa mke mma mth mtr nra nik)] hpz) := by
  refine Met.ofW (cc := cX8_wrong) (maxL := 2) (ret := (some .boolean)) (by decide) rfl ?_
  intro p e s m args below meth c s₁ B hml hv
  obtain ⟨rfl, hsz, hP, hK, hD0, hN, hZ⟩ := hv
  have hx := B.exec
  have hb := B.bytes
  have hr := B.returns
  have hts := atoms_spec (ws := wsX8_wrong) B.pre
  have hown : s.vm.findClass RX8 = some m.cls := findClass_of_methodNamed B.named
  have hlocks := B.notSynchronized
  subst hsz
  have hD := hD0.self (sz := s.heap.size)
  have hA := zA_of hD
  have hl := lv_entry ([.ref m0, .int q]) (n := 2) (Nat.le_of_ble_eq_true rfl)
  rw [lg_entry_eq]
  generalize (lg_sl ([.ref m0, .int q]) ++ List.replicate (2 - (lg_sl ([.ref m0, .int q])).length) Slot.unset).toArray = ls at hl ⊢
  replace hl : lv_has ls 2 [(0, .ref m0), (1, .int q)] := hl
  refine zw_begin hP hD (fun H locs hP1 hS => ?_)
  clear hP
  have hP := hP1
  clear hP1
  refine lv_aload_n hx hb dX8_wrong_0 rfl (lv_at hl 0 rfl) ?_
  refine lv_iload_n hx hb dX8_wrong_1 rfl (lv_at hl 1 rfl) ?_
  refine va_put (D := D) (ci := 8) (v := .int q) (ty := .int) (C := RX8) (T := TX8) (N := 38) hx hb hts hi_X8_wrong_8 tyX8 tyX8_ok nmX8 hown hK hP hD hS 0 rfl rfl 30 (by decide) (hts (.fieldLink RX8 149 "TheLiningsInItModel" "wrongAt" "I") (List.mem_of_getElem? (i := 1) rfl)) (fun _ h9 => h9) rfl (tyX8_ok 30 (Nat.le_of_ble_eq_true rfl)) rfl rfl (Nat.le_of_ble_eq_true rfl) dX8_wrong_2 (fun H locs hP hD hS => ?_)
  have h9R := zRe (ws' := [(zMO m0 npu nte nat_ nde nto nse nhu nga nsd nfa mrf mki mpa mta mla msl mco mhe mso msi msh mce mca mwo mnu mte nba npl nen nnu q mwa mke mma mth mtr nra nik)]) hP hD rfl
  clear hP hD
  obtain ⟨hP, hD⟩ := h9R
  refine lv_iconst (v := 0) hx hb dX8_wrong_5 (by decide) ?_
  exact W.zret (v := 0) hx hb hr (by decide) (fun t ht hW => ⟨⟨0, q, rfl, ⟨(show q.toInt = q.toInt from by rfl), rfl⟩, zRet ht hP hD [0] (by decide) rfl⟩, hS.F ht⟩) hS.2.2 dX8_wrong_6
set_option maxHeartbeats 4000000 in
set_option maxRecDepth 100000 in
theorem c_F_M_stands (l : Launch) (D : va_G) (cI cJ cZ cP cS : ClassId) (po : zPool) (m0 mrf mki mpa mta mla msl mco mhe mso msi msh mce mca mwo mnu mte mwa mke mma mth mtr : Nat) (npu nte nat_ nde nto nse nhu nga nsd nfa nba npl nen nnu nwr nra nik : Int32) (gwo : Nat → Int32) (gce : Nat → Int64) (hy0 : 0 ≤ npu.toInt) (hy1 : npu.toInt ≤ 8) (hy2 : 4 ≤ nte.toInt) (hy3 : nte.toInt ≤ 40) (hy4 : 0 ≤ nat_.toInt) (hy5 : nat_.toInt ≤ 40) (hy6 : 0 ≤ nde.toInt) (hy7 : nde.toInt ≤ 24) (hy8 : 0 ≤ nhu.toInt) (hy9 : nhu.toInt ≤ 9) (hy10 : 0 ≤ nra.toInt) (hy11 : nra.toInt ≤ 2000) (hy12 : 0 ≤ nik.toInt) (hy13 : nik.toInt ≤ 1) (hy14 : 0 ≤ nba.toInt) (hy15 : nba.toInt ≤ 1120) (hy16 : 0 ≤ npl.toInt) (hy17 : npl.toInt ≤ 160) (hy18 : 0 ≤ nen.toInt) (hy19 : nen.toInt ≤ 160) (hy20 : npl.toInt ≤ nen.toInt) (hwo : zHWo gwo) : Met l yX8_stands wsX8_stands ({ frames := 0, cells := 0, slots := 0, locals := 0 }) (va_Pc [.ref m0, .int 3] (zR D (zKT cI cJ cZ cP cS) po [(zMO m0 npu nte nat_ nde nto nse nhu nga nsd nfa mrf mki mpa mta mla msl mco mhe mso msi msh mce mca mwo mnu mte nba npl nen nnu nwr mwa mke mma mth mtr nra nik), (mwo, .inl (cI, 64, .inl gwo)), (mce, .inl (cJ, 1280, .inr (.inl gce)))])) (vp_Si (fun r => 0 ≤ r.toInt ∧ r.toInt ≤ 1 ∧ ((r.toInt = 0 → ¬ (npl.toInt + 1 + 1 + 1 < nen.toInt ∧ (zChX gce (nba.toInt + npl.toInt).toNat).toInt = 112 ∧ (zChX gce (nba.toInt + (npl.toInt + 1)).toNat).toInt = 117 ∧ (zChX gce (nba.toInt + ((npl.toInt + 1) + 1)).toNat).toInt = 108 ∧ (zChX gce (nba.toInt + (((npl.toInt + 1) + 1) + 1)).toNat).toInt = 108)) ∧ (r.toInt = 1 → (npl.toInt + 1 + 1 + 1 < nen.toInt ∧ (zChX gce (nba.toInt + npl.toInt).toNat).toInt = 112 ∧ (zChX gce (nba.toInt + (npl.toInt + 1)).toNat).toInt = 117 ∧ (zChX gce (nba.toInt + ((npl.toInt + 1) + 1)).toNat).toInt = 108 ∧ (zChX gce (nba.toInt + (((npl.toInt + 1) + 1) + 1)).toNat).toInt = 108))))) 0 0 (fun _ => False) := by
  refine Met.ofW (cc := cX8_stands) (maxL := 4) (ret := (some .boolean)) (by decide) rfl ?_
  intro p e s m args below meth c s₁ B hml hv
  obtain ⟨rfl, hP, hK, hN, hZ⟩ := hv
  have hx := B.exec
  have hb := B.bytes
  have hr := B.returns
  have hts := atoms_spec (ws := wsX8_stands) B.pre
  have hown : s.vm.findClass RX8 = some m.cls := findClass_of_methodNamed B.named
  have hlocks := B.notSynchronized
  have hl := lv_entry ([.ref m0, .int 3]) (n := 4) (Nat.le_of_ble_eq_true rfl)
  rw [lg_entry_eq]
  generalize (lg_sl ([.ref m0, .int 3]) ++ List.replicate (4 - (lg_sl ([.ref m0, .int 3])).length) Slot.unset).toArray = ls at hl ⊢
  replace hl : lv_has ls 4 [(0, .ref m0), (1, .int 3)] := hl
  refine lv_iconst (v := 0) hx hb dX8_stands_0 (by decide) ?_
  refine lv_istore_n (lv' := [(2, .int 0), (0, .ref m0), (1, .int 3)]) hx hb dX8_stands_1 rfl hl (by decide) rfl (fun ls hl => ?_)
  refine lv_iconst (v := 0) hx hb dX8_stands_2 (by decide) ?_
  refine lv_istore_n (lv' := [(3, .int 0), (2, .int 0), (0, .ref m0), (1, .int 3)]) hx hb dX8_stands_3 rfl hl (by decide) rfl (fun ls hl => ?_)
  refine lv_iload_n hx hb dX8_stands_4 rfl (lv_at hl 0 rfl) ?_
  refine lv_iload_n hx hb dX8_stands_5 rfl (lv_at hl 3 rfl) ?_
  refine lv_icmp_ge (tgt := 32) hx hb dX8_stands_6 (by decide) (fun c_1 => ?_) (fun c_1 => ?_)
  · exact absurd c_1 (by decide)
  · refine lv_iload_n hx hb dX8_stands_9 rfl (lv_at hl 0 rfl) ?_
    refine lv_aload_n hx hb dX8_stands_10 rfl (lv_at hl 2 rfl) ?_
    refine va_get (D := D) (ci := 8) (v := .ref mwo) (C := RX8) (T := TX8) (N := 38) hx hb hts hi_X8_stands_8 hown hK hP 0 rfl rfl 23 (by decide) (hts (.fieldLink RX8 66 "TheLiningsInItModel" "words" "[I") (List.mem_of_getElem? (i := 1) rfl)) (fun _ h9 => h9) rfl dX8_stands_11 ?_
    refine lv_iload_n hx hb dX8_stands_14 rfl (lv_at hl 1 rfl) ?_
    refine va_iald hx hb hK hP 1 0 rfl rfl (zf_in (by decide) (by decide)) dX8_stands_15 ?_
    refine lv_topi (fun x_2 ex_2 => ?_)
    obtain rfl : x_2 = 116 := ex_2.trans ((congrArg gwo (show (0 : Int32).toNatClampNeg = 0 from by decide)).trans ((hwo 0 (by decide)).trans (by decide)))
    refine lv_if_ne (tgt := 23) hx hb dX8_stands_16 (by decide) (fun c_3 => ?_) (fun c_3 => ?_)
    · refine lv_iconst (v := 0) hx hb dX8_stands_23 (by decide) ?_
      refine lv_iadd hx hb dX8_stands_24 ?_
      refine lv_topi (fun y_4 ey_4 => ?_)
      obtain rfl : y_4 = 0 := ey_4.trans (by decide)
      refine lv_istore_n (lv' := [(3, .int 0), (2, .int 0), (0, .ref m0), (1, .int 3)]) hx hb dX8_stands_25 rfl hl (by decide) rfl (fun ls hl => ?_)
      refine lv_iinc (v := 1) (lv' := [(2, .int 1), (3, .int 0), (0, .ref m0), (1, .int 3)]) hx hb dX8_stands_26 hl (k := 1) rfl (by decide) (by decide) rfl (fun ls hl => ?_)
      refine lv_goto (tgt := 4) hx hb dX8_stands_29 (by decide) ?_
      refine lv_iload_n hx hb dX8_stands_4 rfl (lv_at hl 1 rfl) ?_
      refine lv_iload_n hx hb dX8_stands_5 rfl (lv_at hl 3 rfl) ?_
      refine lv_icmp_ge (tgt := 32) hx hb dX8_stands_6 (by decide) (fun c_5 => ?_) (fun c_5 => ?_)
      · exact absurd c_5 (by decide)
      · refine lv_iload_n hx hb dX8_stands_9 rfl (lv_at hl 1 rfl) ?_
        refine lv_aload_n hx hb dX8_stands_10 rfl (lv_at hl 2 rfl) ?_
        refine va_get (D := D) (ci := 8) (v := .ref mwo) (C := RX8) (T := TX8) (N := 38) hx hb hts hi_X8_stands_8 hown hK hP 0 rfl rfl 23 (by decide) (hts (.fieldLink RX8 66 "TheLiningsInItModel" "words" "[I") (List.mem_of_getElem? (i := 1) rfl)) (fun _ h9 => h9) rfl dX8_stands_11 ?_
        refine lv_iload_n hx hb dX8_stands_14 rfl (lv_at hl 0 rfl) ?_
        refine va_iald hx hb hK hP 1 0 rfl rfl (zf_in (by decide) (by decide)) dX8_stands_15 ?_
        refine lv_topi (fun x_6 ex_6 => ?_)
        obtain rfl : x_6 = 101 := ex_6.trans ((congrArg gwo (show (1 : Int32).toNatClampNeg = 1 from by decide)).trans ((hwo 1 (by decide)).trans (by decide)))
        refine lv_if_ne (tgt := 23) hx hb dX8_stands_16 (by decide) (fun c_7 => ?_) (fun c_7 => ?_)
        · refine lv_iconst (v := 0) hx hb dX8_stands_23 (by decide) ?_
          refine lv_iadd hx hb dX8_stands_24 ?_
          refine lv_topi (fun y_8 ey_8 => ?_)
          obtain rfl : y_8 = 0 := ey_8.trans (by decide)
          refine lv_istore_n (lv' := [(3, .int 0), (2, .int 1), (0, .ref m0), (1, .int 3)]) hx hb dX8_stands_25 rfl hl (by decide) rfl (fun ls hl => ?_)
          refine lv_iinc (v := 2) (lv' := [(2, .int 2), (3, .int 0), (0, .ref m0), (1, .int 3)]) hx hb dX8_stands_26 hl (k := 1) rfl (by decide) (by decide) rfl (fun ls hl => ?_)
          refine lv_goto (tgt := 4) hx hb dX8_stands_29 (by decide) ?_
          refine lv_iload_n hx hb dX8_stands_4 rfl (lv_at hl 1 rfl) ?_
          refine lv_iload_n hx hb dX8_stands_5 rfl (lv_at hl 3 rfl) ?_
          refine lv_icmp_ge (tgt := 32) hx hb dX8_stands_6 (by decide) (fun c_9 => ?_) (fun c_9 => ?_)
          · exact absurd c_9 (by decide)
          · refine lv_iload_n hx hb dX8_stands_9 rfl (lv_at hl 1 rfl) ?_
            refine lv_aload_n hx hb dX8_stands_10 rfl (lv_at hl 2 rfl) ?_
            refine va_get (D := D) (ci := 8) (v := .ref mwo) (C := RX8) (T := TX8) (N := 38) hx hb hts hi_X8_stands_8 hown hK hP 0 rfl rfl 23 (by decide) (hts (.fieldLink RX8 66 "TheLiningsInItModel" "words" "[I") (List.mem_of_getElem? (i := 1) rfl)) (fun _ h9 => h9) rfl dX8_stands_11 ?_
            refine lv_iload_n hx hb dX8_stands_14 rfl (lv_at hl 0 rfl) ?_
            refine va_iald hx hb hK hP 1 0 rfl rfl (zf_in (by decide) (by decide)) dX8_stands_15 ?_
            refine lv_topi (fun x_10 ex_10 => ?_)
            obtain rfl : x_10 = 101 := ex_10.trans ((congrArg gwo (show (2 : Int32).toNatClampNeg = 2 from by decide)).trans ((hwo 2 (by decide)).trans (by decide)))
            refine lv_if_ne (tgt := 23) hx hb dX8_stands_16 (by decide) (fun c_11 => ?_) (fun c_11 => ?_)
            · refine lv_iconst (v := 0) hx hb dX8_stands_23 (by decide) ?_
              refine lv_iadd hx hb dX8_stands_24 ?_
              refine lv_topi (fun y_12 ey_12 => ?_)
              obtain rfl : y_12 = 0 := ey_12.trans (by decide)
              refine lv_istore_n (lv' := [(3, .int 0), (2, .int 2), (0, .ref m0), (1, .int 3)]) hx hb dX8_stands_25 rfl hl (by decide) rfl (fun ls hl => ?_)
              refine lv_iinc (v := 3) (lv' := [(2, .int 3), (3, .int 0), (0, .ref m0), (1, .int 3)]) hx hb dX8_stands_26 hl (k := 1) rfl (by decide) (by decide) rfl (fun ls hl => ?_)
              refine lv_goto (tgt := 4) hx hb dX8_stands_29 (by decide) ?_
              refine lv_iload_n hx hb dX8_stands_4 rfl (lv_at hl 1 rfl) ?_
              refine lv_iload_n hx hb dX8_stands_5 rfl (lv_at hl 3 rfl) ?_
              refine lv_icmp_ge (tgt := 32) hx hb dX8_stands_6 (by decide) (fun c_13 => ?_) (fun c_13 => ?_)
              · exact absurd c_13 (by decide)
              · refine lv_iload_n hx hb dX8_stands_9 rfl (lv_at hl 1 rfl) ?_
                refine lv_aload_n hx hb dX8_stands_10 rfl (lv_at hl 2 rfl) ?_
                refine va_get (D := D) (ci := 8) (v := .ref mwo) (C := RX8) (T := TX8) (N := 38) hx hb hts hi_X8_stands_8 hown hK hP 0 rfl rfl 23 (by decide) (hts (.fieldLink RX8 66 "TheLiningsInItModel" "words" "[I") (List.mem_of_getElem? (i := 1) rfl)) (fun _ h9 => h9) rfl dX8_stands_11 ?_
                refine lv_iload_n hx hb dX8_stands_14 rfl (lv_at hl 0 rfl) ?_
                refine va_iald hx hb hK hP 1 0 rfl rfl (zf_in (by decide) (by decide)) dX8_stands_15 ?_
                refine lv_topi (fun x_14 ex_14 => ?_)
                obtain rfl : x_14 = 116 := ex_14.trans ((congrArg gwo (show (3 : Int32).toNatClampNeg = 3 from by decide)).trans ((hwo 3 (by decide)).trans (by decide)))
                refine lv_if_ne (tgt := 23) hx hb dX8_stands_16 (by decide) (fun c_15 => ?_) (fun c_15 => ?_)
                · refine lv_iconst (v := 0) hx hb dX8_stands_23 (by decide) ?_
                  refine lv_iadd hx hb dX8_stands_24 ?_
                  refine lv_topi (fun y_16 ey_16 => ?_)
                  obtain rfl : y_16 = 0 := ey_16.trans (by decide)
                  refine lv_istore_n (lv' := [(3, .int 0), (2, .int 3), (0, .ref m0), (1, .int 3)]) hx hb dX8_stands_25 rfl hl (by decide) rfl (fun ls hl => ?_)
                  refine lv_iinc (v := 4) (lv' := [(2, .int 4), (3, .int 0), (0, .ref m0), (1, .int 3)]) hx hb dX8_stands_26 hl (k := 1) rfl (by decide) (by decide) rfl (fun ls hl => ?_)
                  refine lv_goto (tgt := 4) hx hb dX8_stands_29 (by decide) ?_
                  refine lv_iload_n hx hb dX8_stands_4 rfl (lv_at hl 1 rfl) ?_
                  refine lv_iload_n hx hb dX8_stands_5 rfl (lv_at hl 3 rfl) ?_
                  refine lv_icmp_ge (tgt := 32) hx hb dX8_stands_6 (by decide) (fun c_17 => ?_) (fun c_17 => ?_)
                  · exact absurd c_17 (by decide)
                  · refine lv_iload_n hx hb dX8_stands_9 rfl (lv_at hl 1 rfl) ?_
                    refine lv_aload_n hx hb dX8_stands_10 rfl (lv_at hl 2 rfl) ?_
                    refine va_get (D := D) (ci := 8) (v := .ref mwo) (C := RX8) (T := TX8) (N := 38) hx hb hts hi_X8_stands_8 hown hK hP 0 rfl rfl 23 (by decide) (hts (.fieldLink RX8 66 "TheLiningsInItModel" "words" "[I") (List.mem_of_getElem? (i := 1) rfl)) (fun _ h9 => h9) rfl dX8_stands_11 ?_
                    refine lv_iload_n hx hb dX8_stands_14 rfl (lv_at hl 0 rfl) ?_
                    refine va_iald hx hb hK hP 1 0 rfl rfl (zf_in (by decide) (by decide)) dX8_stands_15 ?_
                    refine lv_topi (fun x_18 ex_18 => ?_)
                    obtain rfl : x_18 = 104 := ex_18.trans ((congrArg gwo (show (4 : Int32).toNatClampNeg = 4 from by decide)).trans ((hwo 4 (by decide)).trans (by decide)))
                    refine lv_if_ne (tgt := 23) hx hb dX8_stands_16 (by decide) (fun c_19 => ?_) (fun c_19 => ?_)
                    · refine lv_iconst (v := 0) hx hb dX8_stands_23 (by decide) ?_
                      refine lv_iadd hx hb dX8_stands_24 ?_
                      refine lv_topi (fun y_20 ey_20 => ?_)
                      obtain rfl : y_20 = 0 := ey_20.trans (by decide)
                      refine lv_istore_n (lv' := [(3, .int 0), (2, .int 4), (0, .ref m0), (1, .int 3)]) hx hb dX8_stands_25 rfl hl (by decide) rfl (fun ls hl => ?_)
                      refine lv_iinc (v := 5) (lv' := [(2, .int 5), (3, .int 0), (0, .ref m0), (1, .int 3)]) hx hb dX8_stands_26 hl (k := 1) rfl (by decide) (by decide) rfl (fun ls hl => ?_)
                      refine lv_goto (tgt := 4) hx hb dX8_stands_29 (by decide) ?_
                      refine lv_iload_n hx hb dX8_stands_4 rfl (lv_at hl 1 rfl) ?_
                      refine lv_iload_n hx hb dX8_stands_5 rfl (lv_at hl 3 rfl) ?_
                      refine lv_icmp_ge (tgt := 32) hx hb dX8_stands_6 (by decide) (fun c_21 => ?_) (fun c_21 => ?_)
                      · exact absurd c_21 (by decide)
                      · refine lv_iload_n hx hb dX8_stands_9 rfl (lv_at hl 1 rfl) ?_
                        refine lv_aload_n hx hb dX8_stands_10 rfl (lv_at hl 2 rfl) ?_
                        refine va_get (D := D) (ci := 8) (v := .ref mwo) (C := RX8) (T := TX8) (N := 38) hx hb hts hi_X8_stands_8 hown hK hP 0 rfl rfl 23 (by decide) (hts (.fieldLink RX8 66 "TheLiningsInItModel" "words" "[I") (List.mem_of_getElem? (i := 1) rfl)) (fun _ h9 => h9) rfl dX8_stands_11 ?_
                        refine lv_iload_n hx hb dX8_stands_14 rfl (lv_at hl 0 rfl) ?_
                        refine va_iald hx hb hK hP 1 0 rfl rfl (zf_in (by decide) (by decide)) dX8_stands_15 ?_
                        refine lv_topi (fun x_22 ex_22 => ?_)
                        obtain rfl : x_22 = 32 := ex_22.trans ((congrArg gwo (show (5 : Int32).toNatClampNeg = 5 from by decide)).trans ((hwo 5 (by decide)).trans (by decide)))
                        refine lv_if_ne (tgt := 23) hx hb dX8_stands_16 (by decide) (fun c_23 => ?_) (fun c_23 => ?_)
                        · refine lv_iconst (v := 0) hx hb dX8_stands_23 (by decide) ?_
                          refine lv_iadd hx hb dX8_stands_24 ?_
                          refine lv_topi (fun y_24 ey_24 => ?_)
                          obtain rfl : y_24 = 0 := ey_24.trans (by decide)
                          refine lv_istore_n (lv' := [(3, .int 0), (2, .int 5), (0, .ref m0), (1, .int 3)]) hx hb dX8_stands_25 rfl hl (by decide) rfl (fun ls hl => ?_)
                          refine lv_iinc (v := 6) (lv' := [(2, .int 6), (3, .int 0), (0, .ref m0), (1, .int 3)]) hx hb dX8_stands_26 hl (k := 1) rfl (by decide) (by decide) rfl (fun ls hl => ?_)
                          refine lv_goto (tgt := 4) hx hb dX8_stands_29 (by decide) ?_
                          refine lv_iload_n hx hb dX8_stands_4 rfl (lv_at hl 1 rfl) ?_
                          refine lv_iload_n hx hb dX8_stands_5 rfl (lv_at hl 3 rfl) ?_
                          refine lv_icmp_ge (tgt := 32) hx hb dX8_stands_6 (by decide) (fun c_25 => ?_) (fun c_25 => ?_)
                          · exact absurd c_25 (by decide)
                          · refine lv_iload_n hx hb dX8_stands_9 rfl (lv_at hl 1 rfl) ?_
                            refine lv_aload_n hx hb dX8_stands_10 rfl (lv_at hl 2 rfl) ?_
                            refine va_get (D := D) (ci := 8) (v := .ref mwo) (C := RX8) (T := TX8) (N := 38) hx hb hts hi_X8_stands_8 hown hK hP 0 rfl rfl 23 (by decide) (hts (.fieldLink RX8 66 "TheLiningsInItModel" "words" "[I") (List.mem_of_getElem? (i := 1) rfl)) (fun _ h9 => h9) rfl dX8_stands_11 ?_
                            refine lv_iload_n hx hb dX8_stands_14 rfl (lv_at hl 0 rfl) ?_
                            refine va_iald hx hb hK hP 1 0 rfl rfl (zf_in (by decide) (by decide)) dX8_stands_15 ?_
                            refine lv_topi (fun x_26 ex_26 => ?_)
                            obtain rfl : x_26 = 0 := ex_26.trans ((congrArg gwo (show (6 : Int32).toNatClampNeg = 6 from by decide)).trans ((hwo 6 (by decide)).trans (by decide)))
                            refine lv_if_ne (tgt := 23) hx hb dX8_stands_16 (by decide) (fun c_27 => ?_) (fun c_27 => ?_)
                            · exact absurd c_27 (by decide)
                            · refine lv_iconst (v := 1) hx hb dX8_stands_19 (by decide) ?_
                              refine lv_goto (tgt := 24) hx hb dX8_stands_20 (by decide) ?_
                              refine lv_iadd hx hb dX8_stands_24 ?_
                              refine lv_topi (fun y_28 ey_28 => ?_)
                              obtain rfl : y_28 = 1 := ey_28.trans (by decide)
                              refine lv_istore_n (lv' := [(3, .int 1), (2, .int 6), (0, .ref m0), (1, .int 3)]) hx hb dX8_stands_25 rfl hl (by decide) rfl (fun ls hl => ?_)
                              refine lv_iinc (v := 7) (lv' := [(2, .int 7), (3, .int 1), (0, .ref m0), (1, .int 3)]) hx hb dX8_stands_26 hl (k := 1) rfl (by decide) (by decide) rfl (fun ls hl => ?_)
                              refine lv_goto (tgt := 4) hx hb dX8_stands_29 (by decide) ?_
                              refine lv_iload_n hx hb dX8_stands_4 rfl (lv_at hl 1 rfl) ?_
                              refine lv_iload_n hx hb dX8_stands_5 rfl (lv_at hl 3 rfl) ?_
                              refine lv_icmp_ge (tgt := 32) hx hb dX8_stands_6 (by decide) (fun c_29 => ?_) (fun c_29 => ?_)
                              · exact absurd c_29 (by decide)
                              · refine lv_iload_n hx hb dX8_stands_9 rfl (lv_at hl 1 rfl) ?_
                                refine lv_aload_n hx hb dX8_stands_10 rfl (lv_at hl 2 rfl) ?_
                                refine va_get (D := D) (ci := 8) (v := .ref mwo) (C := RX8) (T := TX8) (N := 38) hx hb hts hi_X8_stands_8 hown hK hP 0 rfl rfl 23 (by decide) (hts (.fieldLink RX8 66 "TheLiningsInItModel" "words" "[I") (List.mem_of_getElem? (i := 1) rfl)) (fun _ h9 => h9) rfl dX8_stands_11 ?_
                                refine lv_iload_n hx hb dX8_stands_14 rfl (lv_at hl 0 rfl) ?_
                                refine va_iald hx hb hK hP 1 0 rfl rfl (zf_in (by decide) (by decide)) dX8_stands_15 ?_
                                refine lv_topi (fun x_30 ex_30 => ?_)
                                obtain rfl : x_30 = 108 := ex_30.trans ((congrArg gwo (show (7 : Int32).toNatClampNeg = 7 from by decide)).trans ((hwo 7 (by decide)).trans (by decide)))
                                refine lv_if_ne (tgt := 23) hx hb dX8_stands_16 (by decide) (fun c_31 => ?_) (fun c_31 => ?_)
                                · refine lv_iconst (v := 0) hx hb dX8_stands_23 (by decide) ?_
                                  refine lv_iadd hx hb dX8_stands_24 ?_
                                  refine lv_topi (fun y_32 ey_32 => ?_)
                                  obtain rfl : y_32 = 1 := ey_32.trans (by decide)
                                  refine lv_istore_n (lv' := [(3, .int 1), (2, .int 7), (0, .ref m0), (1, .int 3)]) hx hb dX8_stands_25 rfl hl (by decide) rfl (fun ls hl => ?_)
                                  refine lv_iinc (v := 8) (lv' := [(2, .int 8), (3, .int 1), (0, .ref m0), (1, .int 3)]) hx hb dX8_stands_26 hl (k := 1) rfl (by decide) (by decide) rfl (fun ls hl => ?_)
                                  refine lv_goto (tgt := 4) hx hb dX8_stands_29 (by decide) ?_
                                  refine lv_iload_n hx hb dX8_stands_4 rfl (lv_at hl 1 rfl) ?_
                                  refine lv_iload_n hx hb dX8_stands_5 rfl (lv_at hl 3 rfl) ?_
                                  refine lv_icmp_ge (tgt := 32) hx hb dX8_stands_6 (by decide) (fun c_33 => ?_) (fun c_33 => ?_)
                                  · exact absurd c_33 (by decide)
                                  · refine lv_iload_n hx hb dX8_stands_9 rfl (lv_at hl 1 rfl) ?_
                                    refine lv_aload_n hx hb dX8_stands_10 rfl (lv_at hl 2 rfl) ?_
                                    refine va_get (D := D) (ci := 8) (v := .ref mwo) (C := RX8) (T := TX8) (N := 38) hx hb hts hi_X8_stands_8 hown hK hP 0 rfl rfl 23 (by decide) (hts (.fieldLink RX8 66 "TheLiningsInItModel" "words" "[I") (List.mem_of_getElem? (i := 1) rfl)) (fun _ h9 => h9) rfl dX8_stands_11 ?_
                                    refine lv_iload_n hx hb dX8_stands_14 rfl (lv_at hl 0 rfl) ?_
                                    refine va_iald hx hb hK hP 1 0 rfl rfl (zf_in (by decide) (by decide)) dX8_stands_15 ?_
                                    refine lv_topi (fun x_34 ex_34 => ?_)
                                    obtain rfl : x_34 = 97 := ex_34.trans ((congrArg gwo (show (8 : Int32).toNatClampNeg = 8 from by decide)).trans ((hwo 8 (by decide)).trans (by decide)))
                                    refine lv_if_ne (tgt := 23) hx hb dX8_stands_16 (by decide) (fun c_35 => ?_) (fun c_35 => ?_)
                                    · refine lv_iconst (v := 0) hx hb dX8_stands_23 (by decide) ?_
                                      refine lv_iadd hx hb dX8_stands_24 ?_
                                      refine lv_topi (fun y_36 ey_36 => ?_)
                                      obtain rfl : y_36 = 1 := ey_36.trans (by decide)
                                      refine lv_istore_n (lv' := [(3, .int 1), (2, .int 8), (0, .ref m0), (1, .int 3)]) hx hb dX8_stands_25 rfl hl (by decide) rfl (fun ls hl => ?_)
                                      refine lv_iinc (v := 9) (lv' := [(2, .int 9), (3, .int 1), (0, .ref m0), (1, .int 3)]) hx hb dX8_stands_26 hl (k := 1) rfl (by decide) (by decide) rfl (fun ls hl => ?_)
                                      refine lv_goto (tgt := 4) hx hb dX8_stands_29 (by decide) ?_
                                      refine lv_iload_n hx hb dX8_stands_4 rfl (lv_at hl 1 rfl) ?_
                                      refine lv_iload_n hx hb dX8_stands_5 rfl (lv_at hl 3 rfl) ?_
                                      refine lv_icmp_ge (tgt := 32) hx hb dX8_stands_6 (by decide) (fun c_37 => ?_) (fun c_37 => ?_)
                                      · exact absurd c_37 (by decide)
                                      · refine lv_iload_n hx hb dX8_stands_9 rfl (lv_at hl 1 rfl) ?_
                                        refine lv_aload_n hx hb dX8_stands_10 rfl (lv_at hl 2 rfl) ?_
                                        refine va_get (D := D) (ci := 8) (v := .ref mwo) (C := RX8) (T := TX8) (N := 38) hx hb hts hi_X8_stands_8 hown hK hP 0 rfl rfl 23 (by decide) (hts (.fieldLink RX8 66 "TheLiningsInItModel" "words" "[I") (List.mem_of_getElem? (i := 1) rfl)) (fun _ h9 => h9) rfl dX8_stands_11 ?_
                                        refine lv_iload_n hx hb dX8_stands_14 rfl (lv_at hl 0 rfl) ?_
                                        refine va_iald hx hb hK hP 1 0 rfl rfl (zf_in (by decide) (by decide)) dX8_stands_15 ?_
                                        refine lv_topi (fun x_38 ex_38 => ?_)
                                        obtain rfl : x_38 = 99 := ex_38.trans ((congrArg gwo (show (9 : Int32).toNatClampNeg = 9 from by decide)).trans ((hwo 9 (by decide)).trans (by decide)))
                                        refine lv_if_ne (tgt := 23) hx hb dX8_stands_16 (by decide) (fun c_39 => ?_) (fun c_39 => ?_)
                                        · refine lv_iconst (v := 0) hx hb dX8_stands_23 (by decide) ?_
                                          refine lv_iadd hx hb dX8_stands_24 ?_
                                          refine lv_topi (fun y_40 ey_40 => ?_)
                                          obtain rfl : y_40 = 1 := ey_40.trans (by decide)
                                          refine lv_istore_n (lv' := [(3, .int 1), (2, .int 9), (0, .ref m0), (1, .int 3)]) hx hb dX8_stands_25 rfl hl (by decide) rfl (fun ls hl => ?_)
                                          refine lv_iinc (v := 10) (lv' := [(2, .int 10), (3, .int 1), (0, .ref m0), (1, .int 3)]) hx hb dX8_stands_26 hl (k := 1) rfl (by decide) (by decide) rfl (fun ls hl => ?_)
                                          refine lv_goto (tgt := 4) hx hb dX8_stands_29 (by decide) ?_
                                          refine lv_iload_n hx hb dX8_stands_4 rfl (lv_at hl 1 rfl) ?_
                                          refine lv_iload_n hx hb dX8_stands_5 rfl (lv_at hl 3 rfl) ?_
                                          refine lv_icmp_ge (tgt := 32) hx hb dX8_stands_6 (by decide) (fun c_41 => ?_) (fun c_41 => ?_)
                                          · exact absurd c_41 (by decide)
                                          · refine lv_iload_n hx hb dX8_stands_9 rfl (lv_at hl 1 rfl) ?_
                                            refine lv_aload_n hx hb dX8_stands_10 rfl (lv_at hl 2 rfl) ?_
                                            refine va_get (D := D) (ci := 8) (v := .ref mwo) (C := RX8) (T := TX8) (N := 38) hx hb hts hi_X8_stands_8 hown hK hP 0 rfl rfl 23 (by decide) (hts (.fieldLink RX8 66 "TheLiningsInItModel" "words" "[I") (List.mem_of_getElem? (i := 1) rfl)) (fun _ h9 => h9) rfl dX8_stands_11 ?_
                                            refine lv_iload_n hx hb dX8_stands_14 rfl (lv_at hl 0 rfl) ?_
                                            refine va_iald hx hb hK hP 1 0 rfl rfl (zf_in (by decide) (by decide)) dX8_stands_15 ?_
                                            refine lv_topi (fun x_42 ex_42 => ?_)
                                            obtain rfl : x_42 = 107 := ex_42.trans ((congrArg gwo (show (10 : Int32).toNatClampNeg = 10 from by decide)).trans ((hwo 10 (by decide)).trans (by decide)))
                                            refine lv_if_ne (tgt := 23) hx hb dX8_stands_16 (by decide) (fun c_43 => ?_) (fun c_43 => ?_)
                                            · refine lv_iconst (v := 0) hx hb dX8_stands_23 (by decide) ?_
                                              refine lv_iadd hx hb dX8_stands_24 ?_
                                              refine lv_topi (fun y_44 ey_44 => ?_)
                                              obtain rfl : y_44 = 1 := ey_44.trans (by decide)
                                              refine lv_istore_n (lv' := [(3, .int 1), (2, .int 10), (0, .ref m0), (1, .int 3)]) hx hb dX8_stands_25 rfl hl (by decide) rfl (fun ls hl => ?_)
                                              refine lv_iinc (v := 11) (lv' := [(2, .int 11), (3, .int 1), (0, .ref m0), (1, .int 3)]) hx hb dX8_stands_26 hl (k := 1) rfl (by decide) (by decide) rfl (fun ls hl => ?_)
                                              refine lv_goto (tgt := 4) hx hb dX8_stands_29 (by decide) ?_
                                              refine lv_iload_n hx hb dX8_stands_4 rfl (lv_at hl 1 rfl) ?_
                                              refine lv_iload_n hx hb dX8_stands_5 rfl (lv_at hl 3 rfl) ?_
                                              refine lv_icmp_ge (tgt := 32) hx hb dX8_stands_6 (by decide) (fun c_45 => ?_) (fun c_45 => ?_)
                                              · exact absurd c_45 (by decide)
                                              · refine lv_iload_n hx hb dX8_stands_9 rfl (lv_at hl 1 rfl) ?_
                                                refine lv_aload_n hx hb dX8_stands_10 rfl (lv_at hl 2 rfl) ?_
                                                refine va_get (D := D) (ci := 8) (v := .ref mwo) (C := RX8) (T := TX8) (N := 38) hx hb hts hi_X8_stands_8 hown hK hP 0 rfl rfl 23 (by decide) (hts (.fieldLink RX8 66 "TheLiningsInItModel" "words" "[I") (List.mem_of_getElem? (i := 1) rfl)) (fun _ h9 => h9) rfl dX8_stands_11 ?_
                                                refine lv_iload_n hx hb dX8_stands_14 rfl (lv_at hl 0 rfl) ?_
                                                refine va_iald hx hb hK hP 1 0 rfl rfl (zf_in (by decide) (by decide)) dX8_stands_15 ?_
                                                refine lv_topi (fun x_46 ex_46 => ?_)
                                                obtain rfl : x_46 = 32 := ex_46.trans ((congrArg gwo (show (11 : Int32).toNatClampNeg = 11 from by decide)).trans ((hwo 11 (by decide)).trans (by decide)))
                                                refine lv_if_ne (tgt := 23) hx hb dX8_stands_16 (by decide) (fun c_47 => ?_) (fun c_47 => ?_)
                                                · refine lv_iconst (v := 0) hx hb dX8_stands_23 (by decide) ?_
                                                  refine lv_iadd hx hb dX8_stands_24 ?_
                                                  refine lv_topi (fun y_48 ey_48 => ?_)
                                                  obtain rfl : y_48 = 1 := ey_48.trans (by decide)
                                                  refine lv_istore_n (lv' := [(3, .int 1), (2, .int 11), (0, .ref m0), (1, .int 3)]) hx hb dX8_stands_25 rfl hl (by decide) rfl (fun ls hl => ?_)
                                                  refine lv_iinc (v := 12) (lv' := [(2, .int 12), (3, .int 1), (0, .ref m0), (1, .int 3)]) hx hb dX8_stands_26 hl (k := 1) rfl (by decide) (by decide) rfl (fun ls hl => ?_)
                                                  refine lv_goto (tgt := 4) hx hb dX8_stands_29 (by decide) ?_
                                                  refine lv_iload_n hx hb dX8_stands_4 rfl (lv_at hl 1 rfl) ?_
                                                  refine lv_iload_n hx hb dX8_stands_5 rfl (lv_at hl 3 rfl) ?_
                                                  refine lv_icmp_ge (tgt := 32) hx hb dX8_stands_6 (by decide) (fun c_49 => ?_) (fun c_49 => ?_)
                                                  · exact absurd c_49 (by decide)
                                                  · refine lv_iload_n hx hb dX8_stands_9 rfl (lv_at hl 1 rfl) ?_
                                                    refine lv_aload_n hx hb dX8_stands_10 rfl (lv_at hl 2 rfl) ?_
                                                    refine va_get (D := D) (ci := 8) (v := .ref mwo) (C := RX8) (T := TX8) (N := 38) hx hb hts hi_X8_stands_8 hown hK hP 0 rfl rfl 23 (by decide) (hts (.fieldLink RX8 66 "TheLiningsInItModel" "words" "[I") (List.mem_of_getElem? (i := 1) rfl)) (fun _ h9 => h9) rfl dX8_stands_11 ?_
                                                    refine lv_iload_n hx hb dX8_stands_14 rfl (lv_at hl 0 rfl) ?_
                                                    refine va_iald hx hb hK hP 1 0 rfl rfl (zf_in (by decide) (by decide)) dX8_stands_15 ?_
                                                    refine lv_topi (fun x_50 ex_50 => ?_)
                                                    obtain rfl : x_50 = 0 := ex_50.trans ((congrArg gwo (show (12 : Int32).toNatClampNeg = 12 from by decide)).trans ((hwo 12 (by decide)).trans (by decide)))
                                                    refine lv_if_ne (tgt := 23) hx hb dX8_stands_16 (by decide) (fun c_51 => ?_) (fun c_51 => ?_)
                                                    · exact absurd c_51 (by decide)
                                                    · refine lv_iconst (v := 1) hx hb dX8_stands_19 (by decide) ?_
                                                      refine lv_goto (tgt := 24) hx hb dX8_stands_20 (by decide) ?_
                                                      refine lv_iadd hx hb dX8_stands_24 ?_
                                                      refine lv_topi (fun y_52 ey_52 => ?_)
                                                      obtain rfl : y_52 = 2 := ey_52.trans (by decide)
                                                      refine lv_istore_n (lv' := [(3, .int 2), (2, .int 12), (0, .ref m0), (1, .int 3)]) hx hb dX8_stands_25 rfl hl (by decide) rfl (fun ls hl => ?_)
                                                      refine lv_iinc (v := 13) (lv' := [(2, .int 13), (3, .int 2), (0, .ref m0), (1, .int 3)]) hx hb dX8_stands_26 hl (k := 1) rfl (by decide) (by decide) rfl (fun ls hl => ?_)
                                                      refine lv_goto (tgt := 4) hx hb dX8_stands_29 (by decide) ?_
                                                      refine lv_iload_n hx hb dX8_stands_4 rfl (lv_at hl 1 rfl) ?_
                                                      refine lv_iload_n hx hb dX8_stands_5 rfl (lv_at hl 3 rfl) ?_
                                                      refine lv_icmp_ge (tgt := 32) hx hb dX8_stands_6 (by decide) (fun c_53 => ?_) (fun c_53 => ?_)
                                                      · exact absurd c_53 (by decide)
                                                      · refine lv_iload_n hx hb dX8_stands_9 rfl (lv_at hl 1 rfl) ?_
                                                        refine lv_aload_n hx hb dX8_stands_10 rfl (lv_at hl 2 rfl) ?_
                                                        refine va_get (D := D) (ci := 8) (v := .ref mwo) (C := RX8) (T := TX8) (N := 38) hx hb hts hi_X8_stands_8 hown hK hP 0 rfl rfl 23 (by decide) (hts (.fieldLink RX8 66 "TheLiningsInItModel" "words" "[I") (List.mem_of_getElem? (i := 1) rfl)) (fun _ h9 => h9) rfl dX8_stands_11 ?_
                                                        refine lv_iload_n hx hb dX8_stands_14 rfl (lv_at hl 0 rfl) ?_
                                                        refine va_iald hx hb hK hP 1 0 rfl rfl (zf_in (by decide) (by decide)) dX8_stands_15 ?_
                                                        refine lv_topi (fun x_54 ex_54 => ?_)
                                                        obtain rfl : x_54 = 115 := ex_54.trans ((congrArg gwo (show (13 : Int32).toNatClampNeg = 13 from by decide)).trans ((hwo 13 (by decide)).trans (by decide)))
                                                        refine lv_if_ne (tgt := 23) hx hb dX8_stands_16 (by decide) (fun c_55 => ?_) (fun c_55 => ?_)
                                                        · refine lv_iconst (v := 0) hx hb dX8_stands_23 (by decide) ?_
                                                          refine lv_iadd hx hb dX8_stands_24 ?_
                                                          refine lv_topi (fun y_56 ey_56 => ?_)
                                                          obtain rfl : y_56 = 2 := ey_56.trans (by decide)
                                                          refine lv_istore_n (lv' := [(3, .int 2), (2, .int 13), (0, .ref m0), (1, .int 3)]) hx hb dX8_stands_25 rfl hl (by decide) rfl (fun ls hl => ?_)
                                                          refine lv_iinc (v := 14) (lv' := [(2, .int 14), (3, .int 2), (0, .ref m0), (1, .int 3)]) hx hb dX8_stands_26 hl (k := 1) rfl (by decide) (by decide) rfl (fun ls hl => ?_)
                                                          refine lv_goto (tgt := 4) hx hb dX8_stands_29 (by decide) ?_
                                                          refine lv_iload_n hx hb dX8_stands_4 rfl (lv_at hl 1 rfl) ?_
                                                          refine lv_iload_n hx hb dX8_stands_5 rfl (lv_at hl 3 rfl) ?_
                                                          refine lv_icmp_ge (tgt := 32) hx hb dX8_stands_6 (by decide) (fun c_57 => ?_) (fun c_57 => ?_)
                                                          · exact absurd c_57 (by decide)
                                                          · refine lv_iload_n hx hb dX8_stands_9 rfl (lv_at hl 1 rfl) ?_
                                                            refine lv_aload_n hx hb dX8_stands_10 rfl (lv_at hl 2 rfl) ?_
                                                            refine va_get (D := D) (ci := 8) (v := .ref mwo) (C := RX8) (T := TX8) (N := 38) hx hb hts hi_X8_stands_8 hown hK hP 0 rfl rfl 23 (by decide) (hts (.fieldLink RX8 66 "TheLiningsInItModel" "words" "[I") (List.mem_of_getElem? (i := 1) rfl)) (fun _ h9 => h9) rfl dX8_stands_11 ?_
                                                            refine lv_iload_n hx hb dX8_stands_14 rfl (lv_at hl 0 rfl) ?_
                                                            refine va_iald hx hb hK hP 1 0 rfl rfl (zf_in (by decide) (by decide)) dX8_stands_15 ?_
                                                            refine lv_topi (fun x_58 ex_58 => ?_)
                                                            obtain rfl : x_58 = 108 := ex_58.trans ((congrArg gwo (show (14 : Int32).toNatClampNeg = 14 from by decide)).trans ((hwo 14 (by decide)).trans (by decide)))
                                                            refine lv_if_ne (tgt := 23) hx hb dX8_stands_16 (by decide) (fun c_59 => ?_) (fun c_59 => ?_)
                                                            · refine lv_iconst (v := 0) hx hb dX8_stands_23 (by decide) ?_
                                                              refine lv_iadd hx hb dX8_stands_24 ?_
                                                              refine lv_topi (fun y_60 ey_60 => ?_)
                                                              obtain rfl : y_60 = 2 := ey_60.trans (by decide)
                                                              refine lv_istore_n (lv' := [(3, .int 2), (2, .int 14), (0, .ref m0), (1, .int 3)]) hx hb dX8_stands_25 rfl hl (by decide) rfl (fun ls hl => ?_)
                                                              refine lv_iinc (v := 15) (lv' := [(2, .int 15), (3, .int 2), (0, .ref m0), (1, .int 3)]) hx hb dX8_stands_26 hl (k := 1) rfl (by decide) (by decide) rfl (fun ls hl => ?_)
                                                              refine lv_goto (tgt := 4) hx hb dX8_stands_29 (by decide) ?_
                                                              refine lv_iload_n hx hb dX8_stands_4 rfl (lv_at hl 1 rfl) ?_
                                                              refine lv_iload_n hx hb dX8_stands_5 rfl (lv_at hl 3 rfl) ?_
                                                              refine lv_icmp_ge (tgt := 32) hx hb dX8_stands_6 (by decide) (fun c_61 => ?_) (fun c_61 => ?_)
                                                              · exact absurd c_61 (by decide)
                                                              · refine lv_iload_n hx hb dX8_stands_9 rfl (lv_at hl 1 rfl) ?_
                                                                refine lv_aload_n hx hb dX8_stands_10 rfl (lv_at hl 2 rfl) ?_
                                                                refine va_get (D := D) (ci := 8) (v := .ref mwo) (C := RX8) (T := TX8) (N := 38) hx hb hts hi_X8_stands_8 hown hK hP 0 rfl rfl 23 (by decide) (hts (.fieldLink RX8 66 "TheLiningsInItModel" "words" "[I") (List.mem_of_getElem? (i := 1) rfl)) (fun _ h9 => h9) rfl dX8_stands_11 ?_
                                                                refine lv_iload_n hx hb dX8_stands_14 rfl (lv_at hl 0 rfl) ?_
                                                                refine va_iald hx hb hK hP 1 0 rfl rfl (zf_in (by decide) (by decide)) dX8_stands_15 ?_
                                                                refine lv_topi (fun x_62 ex_62 => ?_)
                                                                obtain rfl : x_62 = 97 := ex_62.trans ((congrArg gwo (show (15 : Int32).toNatClampNeg = 15 from by decide)).trans ((hwo 15 (by decide)).trans (by decide)))
                                                                refine lv_if_ne (tgt := 23) hx hb dX8_stands_16 (by decide) (fun c_63 => ?_) (fun c_63 => ?_)
                                                                · refine lv_iconst (v := 0) hx hb dX8_stands_23 (by decide) ?_
                                                                  refine lv_iadd hx hb dX8_stands_24 ?_
                                                                  refine lv_topi (fun y_64 ey_64 => ?_)
                                                                  obtain rfl : y_64 = 2 := ey_64.trans (by decide)
                                                                  refine lv_istore_n (lv' := [(3, .int 2), (2, .int 15), (0, .ref m0), (1, .int 3)]) hx hb dX8_stands_25 rfl hl (by decide) rfl (fun ls hl => ?_)
                                                                  refine lv_iinc (v := 16) (lv' := [(2, .int 16), (3, .int 2), (0, .ref m0), (1, .int 3)]) hx hb dX8_stands_26 hl (k := 1) rfl (by decide) (by decide) rfl (fun ls hl => ?_)
                                                                  refine lv_goto (tgt := 4) hx hb dX8_stands_29 (by decide) ?_
                                                                  refine lv_iload_n hx hb dX8_stands_4 rfl (lv_at hl 1 rfl) ?_
                                                                  refine lv_iload_n hx hb dX8_stands_5 rfl (lv_at hl 3 rfl) ?_
                                                                  refine lv_icmp_ge (tgt := 32) hx hb dX8_stands_6 (by decide) (fun c_65 => ?_) (fun c_65 => ?_)
                                                                  · exact absurd c_65 (by decide)
                                                                  · refine lv_iload_n hx hb dX8_stands_9 rfl (lv_at hl 1 rfl) ?_
                                                                    refine lv_aload_n hx hb dX8_stands_10 rfl (lv_at hl 2 rfl) ?_
                                                                    refine va_get (D := D) (ci := 8) (v := .ref mwo) (C := RX8) (T := TX8) (N := 38) hx hb hts hi_X8_stands_8 hown hK hP 0 rfl rfl 23 (by decide) (hts (.fieldLink RX8 66 "TheLiningsInItModel" "words" "[I") (List.mem_of_getElem? (i := 1) rfl)) (fun _ h9 => h9) rfl dX8_stands_11 ?_
                                                                    refine lv_iload_n hx hb dX8_stands_14 rfl (lv_at hl 0 rfl) ?_
                                                                    refine va_iald hx hb hK hP 1 0 rfl rfl (zf_in (by decide) (by decide)) dX8_stands_15 ?_
                                                                    refine lv_topi (fun x_66 ex_66 => ?_)
                                                                    obtain rfl : x_66 = 99 := ex_66.trans ((congrArg gwo (show (16 : Int32).toNatClampNeg = 16 from by decide)).trans ((hwo 16 (by decide)).trans (by decide)))
                                                                    refine lv_if_ne (tgt := 23) hx hb dX8_stands_16 (by decide) (fun c_67 => ?_) (fun c_67 => ?_)
                                                                    · refine lv_iconst (v := 0) hx hb dX8_stands_23 (by decide) ?_
                                                                      refine lv_iadd hx hb dX8_stands_24 ?_
                                                                      refine lv_topi (fun y_68 ey_68 => ?_)
                                                                      obtain rfl : y_68 = 2 := ey_68.trans (by decide)
                                                                      refine lv_istore_n (lv' := [(3, .int 2), (2, .int 16), (0, .ref m0), (1, .int 3)]) hx hb dX8_stands_25 rfl hl (by decide) rfl (fun ls hl => ?_)
                                                                      refine lv_iinc (v := 17) (lv' := [(2, .int 17), (3, .int 2), (0, .ref m0), (1, .int 3)]) hx hb dX8_stands_26 hl (k := 1) rfl (by decide) (by decide) rfl (fun ls hl => ?_)
                                                                      refine lv_goto (tgt := 4) hx hb dX8_stands_29 (by decide) ?_
                                                                      refine lv_iload_n hx hb dX8_stands_4 rfl (lv_at hl 1 rfl) ?_
                                                                      refine lv_iload_n hx hb dX8_stands_5 rfl (lv_at hl 3 rfl) ?_
                                                                      refine lv_icmp_ge (tgt := 32) hx hb dX8_stands_6 (by decide) (fun c_69 => ?_) (fun c_69 => ?_)
                                                                      · exact absurd c_69 (by decide)
                                                                      · refine lv_iload_n hx hb dX8_stands_9 rfl (lv_at hl 1 rfl) ?_
                                                                        refine lv_aload_n hx hb dX8_stands_10 rfl (lv_at hl 2 rfl) ?_
                                                                        refine va_get (D := D) (ci := 8) (v := .ref mwo) (C := RX8) (T := TX8) (N := 38) hx hb hts hi_X8_stands_8 hown hK hP 0 rfl rfl 23 (by decide) (hts (.fieldLink RX8 66 "TheLiningsInItModel" "words" "[I") (List.mem_of_getElem? (i := 1) rfl)) (fun _ h9 => h9) rfl dX8_stands_11 ?_
                                                                        refine lv_iload_n hx hb dX8_stands_14 rfl (lv_at hl 0 rfl) ?_
                                                                        refine va_iald hx hb hK hP 1 0 rfl rfl (zf_in (by decide) (by decide)) dX8_stands_15 ?_
                                                                        refine lv_topi (fun x_70 ex_70 => ?_)
                                                                        obtain rfl : x_70 = 107 := ex_70.trans ((congrArg gwo (show (17 : Int32).toNatClampNeg = 17 from by decide)).trans ((hwo 17 (by decide)).trans (by decide)))
                                                                        refine lv_if_ne (tgt := 23) hx hb dX8_stands_16 (by decide) (fun c_71 => ?_) (fun c_71 => ?_)
                                                                        · refine lv_iconst (v := 0) hx hb dX8_stands_23 (by decide) ?_
                                                                          refine lv_iadd hx hb dX8_stands_24 ?_
                                                                          refine lv_topi (fun y_72 ey_72 => ?_)
                                                                          obtain rfl : y_72 = 2 := ey_72.trans (by decide)
                                                                          refine lv_istore_n (lv' := [(3, .int 2), (2, .int 17), (0, .ref m0), (1, .int 3)]) hx hb dX8_stands_25 rfl hl (by decide) rfl (fun ls hl => ?_)
                                                                          refine lv_iinc (v := 18) (lv' := [(2, .int 18), (3, .int 2), (0, .ref m0), (1, .int 3)]) hx hb dX8_stands_26 hl (k := 1) rfl (by decide) (by decide) rfl (fun ls hl => ?_)
                                                                          refine lv_goto (tgt := 4) hx hb dX8_stands_29 (by decide) ?_
                                                                          refine lv_iload_n hx hb dX8_stands_4 rfl (lv_at hl 1 rfl) ?_
                                                                          refine lv_iload_n hx hb dX8_stands_5 rfl (lv_at hl 3 rfl) ?_
                                                                          refine lv_icmp_ge (tgt := 32) hx hb dX8_stands_6 (by decide) (fun c_73 => ?_) (fun c_73 => ?_)
                                                                          · exact absurd c_73 (by decide)
                                                                          · refine lv_iload_n hx hb dX8_stands_9 rfl (lv_at hl 1 rfl) ?_
                                                                            refine lv_aload_n hx hb dX8_stands_10 rfl (lv_at hl 2 rfl) ?_
                                                                            refine va_get (D := D) (ci := 8) (v := .ref mwo) (C := RX8) (T := TX8) (N := 38) hx hb hts hi_X8_stands_8 hown hK hP 0 rfl rfl 23 (by decide) (hts (.fieldLink RX8 66 "TheLiningsInItModel" "words" "[I") (List.mem_of_getElem? (i := 1) rfl)) (fun _ h9 => h9) rfl dX8_stands_11 ?_
                                                                            refine lv_iload_n hx hb dX8_stands_14 rfl (lv_at hl 0 rfl) ?_
                                                                            refine va_iald hx hb hK hP 1 0 rfl rfl (zf_in (by decide) (by decide)) dX8_stands_15 ?_
                                                                            refine lv_topi (fun x_74 ex_74 => ?_)
                                                                            obtain rfl : x_74 = 32 := ex_74.trans ((congrArg gwo (show (18 : Int32).toNatClampNeg = 18 from by decide)).trans ((hwo 18 (by decide)).trans (by decide)))
                                                                            refine lv_if_ne (tgt := 23) hx hb dX8_stands_16 (by decide) (fun c_75 => ?_) (fun c_75 => ?_)
                                                                            · refine lv_iconst (v := 0) hx hb dX8_stands_23 (by decide) ?_
                                                                              refine lv_iadd hx hb dX8_stands_24 ?_
                                                                              refine lv_topi (fun y_76 ey_76 => ?_)
                                                                              obtain rfl : y_76 = 2 := ey_76.trans (by decide)
                                                                              refine lv_istore_n (lv' := [(3, .int 2), (2, .int 18), (0, .ref m0), (1, .int 3)]) hx hb dX8_stands_25 rfl hl (by decide) rfl (fun ls hl => ?_)
                                                                              refine lv_iinc (v := 19) (lv' := [(2, .int 19), (3, .int 2), (0, .ref m0), (1, .int 3)]) hx hb dX8_stands_26 hl (k := 1) rfl (by decide) (by decide) rfl (fun ls hl => ?_)
                                                                              refine lv_goto (tgt := 4) hx hb dX8_stands_29 (by decide) ?_
                                                                              refine lv_iload_n hx hb dX8_stands_4 rfl (lv_at hl 1 rfl) ?_
                                                                              refine lv_iload_n hx hb dX8_stands_5 rfl (lv_at hl 3 rfl) ?_
                                                                              refine lv_icmp_ge (tgt := 32) hx hb dX8_stands_6 (by decide) (fun c_77 => ?_) (fun c_77 => ?_)
                                                                              · exact absurd c_77 (by decide)
                                                                              · refine lv_iload_n hx hb dX8_stands_9 rfl (lv_at hl 1 rfl) ?_
                                                                                refine lv_aload_n hx hb dX8_stands_10 rfl (lv_at hl 2 rfl) ?_
                                                                                refine va_get (D := D) (ci := 8) (v := .ref mwo) (C := RX8) (T := TX8) (N := 38) hx hb hts hi_X8_stands_8 hown hK hP 0 rfl rfl 23 (by decide) (hts (.fieldLink RX8 66 "TheLiningsInItModel" "words" "[I") (List.mem_of_getElem? (i := 1) rfl)) (fun _ h9 => h9) rfl dX8_stands_11 ?_
                                                                                refine lv_iload_n hx hb dX8_stands_14 rfl (lv_at hl 0 rfl) ?_
                                                                                refine va_iald hx hb hK hP 1 0 rfl rfl (zf_in (by decide) (by decide)) dX8_stands_15 ?_
                                                                                refine lv_topi (fun x_78 ex_78 => ?_)
                                                                                obtain rfl : x_78 = 0 := ex_78.trans ((congrArg gwo (show (19 : Int32).toNatClampNeg = 19 from by decide)).trans ((hwo 19 (by decide)).trans (by decide)))
                                                                                refine lv_if_ne (tgt := 23) hx hb dX8_stands_16 (by decide) (fun c_79 => ?_) (fun c_79 => ?_)
                                                                                · exact absurd c_79 (by decide)
                                                                                · refine lv_iconst (v := 1) hx hb dX8_stands_19 (by decide) ?_
                                                                                  refine lv_goto (tgt := 24) hx hb dX8_stands_20 (by decide) ?_
                                                                                  refine lv_iadd hx hb dX8_stands_24 ?_
                                                                                  refine lv_topi (fun y_80 ey_80 => ?_)
                                                                                  obtain rfl : y_80 = 3 := ey_80.trans (by decide)
                                                                                  refine lv_istore_n (lv' := [(3, .int 3), (2, .int 19), (0, .ref m0), (1, .int 3)]) hx hb dX8_stands_25 rfl hl (by decide) rfl (fun ls hl => ?_)
                                                                                  refine lv_iinc (v := 20) (lv' := [(2, .int 20), (3, .int 3), (0, .ref m0), (1, .int 3)]) hx hb dX8_stands_26 hl (k := 1) rfl (by decide) (by decide) rfl (fun ls hl => ?_)
                                                                                  refine lv_goto (tgt := 4) hx hb dX8_stands_29 (by decide) ?_
                                                                                  refine lv_iload_n hx hb dX8_stands_4 rfl (lv_at hl 1 rfl) ?_
                                                                                  refine lv_iload_n hx hb dX8_stands_5 rfl (lv_at hl 3 rfl) ?_
                                                                                  refine lv_icmp_ge (tgt := 32) hx hb dX8_stands_6 (by decide) (fun c_81 => ?_) (fun c_81 => ?_)
                                                                                  · refine lv_aload_n hx hb dX8_stands_32 rfl (lv_at hl 2 rfl) ?_
                                                                                    refine va_get (D := D) (ci := 8) (v := .int npl) (C := RX8) (T := TX8) (N := 38) hx hb hts hi_X8_stands_8 hown hK hP 0 rfl rfl 27 (by decide) (hts (.fieldLink RX8 152 "TheLiningsInItModel" "place" "I") (List.mem_of_getElem? (i := 2) rfl)) (fun _ h9 => h9) rfl dX8_stands_33 ?_
                                                                                    refine lv_istore_n (lv' := [(3, .int npl), (2, .int 20), (0, .ref m0), (1, .int 3)]) hx hb dX8_stands_36 rfl hl (by decide) rfl (fun ls hl => ?_)
                                                                                    refine lv_aload_n hx hb dX8_stands_37 rfl (lv_at hl 2 rfl) ?_
                                                                                    refine va_get (D := D) (ci := 8) (v := .ref mwo) (C := RX8) (T := TX8) (N := 38) hx hb hts hi_X8_stands_8 hown hK hP 0 rfl rfl 23 (by decide) (hts (.fieldLink RX8 66 "TheLiningsInItModel" "words" "[I") (List.mem_of_getElem? (i := 1) rfl)) (fun _ h9 => h9) rfl dX8_stands_38 ?_
                                                                                    refine lv_iload_n hx hb dX8_stands_41 rfl (lv_at hl 1 rfl) ?_
                                                                                    refine va_iald hx hb hK hP 1 0 rfl rfl (zf_in (by decide) (by decide)) dX8_stands_42 ?_
                                                                                    refine lv_topi (fun x_82 ex_82 => ?_)
                                                                                    obtain rfl : x_82 = 112 := ex_82.trans ((congrArg gwo (show (20 : Int32).toNatClampNeg = 20 from by decide)).trans ((hwo 20 (by decide)).trans (by decide)))
                                                                                    refine lv_bipush (v := 32) hx hb dX8_stands_43 (by decide) ?_
                                                                                    refine lv_icmp_le (tgt := 86) hx hb dX8_stands_45 (by decide) (fun c_83 => ?_) (fun c_83 => ?_)
                                                                                    · exact absurd c_83 (by decide)
                                                                                    · refine lv_iload_n hx hb dX8_stands_48 rfl (lv_at hl 0 rfl) ?_
                                                                                      refine lv_aload_n hx hb dX8_stands_49 rfl (lv_at hl 2 rfl) ?_
                                                                                      refine va_get (D := D) (ci := 8) (v := .int nen) (C := RX8) (T := TX8) (N := 38) hx hb hts hi_X8_stands_8 hown hK hP 0 rfl rfl 28 (by decide) (hts (.fieldLink RX8 155 "TheLiningsInItModel" "end" "I") (List.mem_of_getElem? (i := 3) rfl)) (fun _ h9 => h9) rfl dX8_stands_50 ?_
                                                                                      refine lv_icmp_ge (tgt := 86) hx hb dX8_stands_53 (by decide) (fun c_84 => ?_) (fun c_84 => ?_)
                                                                                      · have fc_84 : nen.toInt ≤ npl.toInt := zf_le c_84 rfl rfl
                                                                                        refine lv_aload_n hx hb dX8_stands_86 rfl (lv_at hl 2 rfl) ?_
                                                                                        refine va_get (D := D) (ci := 8) (v := .ref mwo) (C := RX8) (T := TX8) (N := 38) hx hb hts hi_X8_stands_8 hown hK hP 0 rfl rfl 23 (by decide) (hts (.fieldLink RX8 66 "TheLiningsInItModel" "words" "[I") (List.mem_of_getElem? (i := 1) rfl)) (fun _ h9 => h9) rfl dX8_stands_87 ?_
                                                                                        refine lv_iload_n hx hb dX8_stands_90 rfl (lv_at hl 1 rfl) ?_
                                                                                        refine va_iald hx hb hK hP 1 0 rfl rfl (zf_in (by decide) (by decide)) dX8_stands_91 ?_
                                                                                        refine lv_topi (fun x_85 ex_85 => ?_)
                                                                                        obtain rfl : x_85 = 112 := ex_85.trans ((congrArg gwo (show (20 : Int32).toNatClampNeg = 20 from by decide)).trans ((hwo 20 (by decide)).trans (by decide)))
                                                                                        refine lv_bipush (v := 32) hx hb dX8_stands_92 (by decide) ?_
                                                                                        refine lv_icmp_gt (tgt := 101) hx hb dX8_stands_94 (by decide) (fun c_86 => ?_) (fun c_86 => ?_)
                                                                                        · refine lv_iconst (v := 0) hx hb dX8_stands_101 (by decide) ?_
                                                                                          exact W.zret (v := 0) hx hb hr (by decide) (fun t ht hW => ⟨0, rfl, ⟨by decide, by decide, (show ((0 : Int32).toInt = 0 → ¬ (npl.toInt + 1 + 1 + 1 < nen.toInt ∧ (zChX gce (nba.toInt + npl.toInt).toNat).toInt = 112 ∧ (zChX gce (nba.toInt + (npl.toInt + 1)).toNat).toInt = 117 ∧ (zChX gce (nba.toInt + ((npl.toInt + 1) + 1)).toNat).toInt = 108 ∧ (zChX gce (nba.toInt + (((npl.toInt + 1) + 1) + 1)).toNat).toInt = 108)) ∧ ((0 : Int32).toInt = 1 → (npl.toInt + 1 + 1 + 1 < nen.toInt ∧ (zChX gce (nba.toInt + npl.toInt).toNat).toInt = 112 ∧ (zChX gce (nba.toInt + (npl.toInt + 1)).toNat).toInt = 117 ∧ (zChX gce (nba.toInt + ((npl.toInt + 1) + 1)).toNat).toInt = 108 ∧ (zChX gce (nba.toInt + (((npl.toInt + 1) + 1) + 1)).toNat).toInt = 108)) from by (have k9 : (0 : Int32).toInt = 0 := (by decide); first | exact ⟨fun h => absurd h (by decide), fun _ => ⟨by omega, by omega, by omega, by omega, by omega⟩⟩ | exact ⟨fun _ => (by omega), fun h => absurd h (by decide)⟩))⟩, ht⟩) (fun q hq => by cases hq) dX8_stands_102
                                                                                        · exact absurd c_86 (by decide)
                                                                                      · have fc_84 : npl.toInt < nen.toInt := zf_nle c_84 rfl rfl
                                                                                        refine lv_aload_n hx hb dX8_stands_56 rfl (lv_at hl 2 rfl) ?_
                                                                                        refine va_get (D := D) (ci := 8) (v := .ref mce) (C := RX8) (T := TX8) (N := 38) hx hb hts hi_X8_stands_8 hown hK hP 0 rfl rfl 21 (by decide) (hts (.fieldLink RX8 59 "TheLiningsInItModel" "cells" "[J") (List.mem_of_getElem? (i := 4) rfl)) (fun _ h9 => h9) rfl dX8_stands_57 ?_
                                                                                        refine lv_aload_n hx hb dX8_stands_60 rfl (lv_at hl 2 rfl) ?_
                                                                                        refine va_get (D := D) (ci := 8) (v := .int nba) (C := RX8) (T := TX8) (N := 38) hx hb hts hi_X8_stands_8 hown hK hP 0 rfl rfl 26 (by decide) (hts (.fieldLink RX8 158 "TheLiningsInItModel" "base" "I") (List.mem_of_getElem? (i := 5) rfl)) (fun _ h9 => h9) rfl dX8_stands_61 ?_
                                                                                        refine lv_iload_n hx hb dX8_stands_64 rfl (lv_at hl 0 rfl) ?_
                                                                                        refine lv_iadd hx hb dX8_stands_65 ?_
                                                                                        refine lv_topi (fun x_87 ex_87 => ?_)
                                                                                        have qx_87 : x_87.toInt = nba.toInt + npl.toInt := by rw [ex_87]; exact zf_add rfl rfl (by omega) (by omega)
                                                                                        refine va_lald hx hb hK hP 2 1 rfl rfl (zf_in (by omega) (by omega)) dX8_stands_66 ?_
                                                                                        refine lv_topl (fun x_88 ex_88 => ?_)
                                                                                        refine lv_l2i hx hb dX8_stands_67 rfl ?_
                                                                                        refine lv_topi (fun x_89 ex_89 => ?_)
                                                                                        have hcx_89 : x_89 = zChX gce (nba.toInt + npl.toInt).toNat := by rw [ex_89, ex_88]; unfold zChX; congr 2; (show x_87.toInt.toNat = _; omega)
                                                                                        have hdx_89 : x_89.toInt = (zChX gce (nba.toInt + npl.toInt).toNat).toInt := by rw [hcx_89]
                                                                                        refine lv_aload_n hx hb dX8_stands_68 rfl (lv_at hl 2 rfl) ?_
                                                                                        refine va_get (D := D) (ci := 8) (v := .ref mwo) (C := RX8) (T := TX8) (N := 38) hx hb hts hi_X8_stands_8 hown hK hP 0 rfl rfl 23 (by decide) (hts (.fieldLink RX8 66 "TheLiningsInItModel" "words" "[I") (List.mem_of_getElem? (i := 1) rfl)) (fun _ h9 => h9) rfl dX8_stands_69 ?_
                                                                                        refine lv_iload_n hx hb dX8_stands_72 rfl (lv_at hl 1 rfl) ?_
                                                                                        refine va_iald hx hb hK hP 1 0 rfl rfl (zf_in (by decide) (by decide)) dX8_stands_73 ?_
                                                                                        refine lv_topi (fun x_90 ex_90 => ?_)
                                                                                        obtain rfl : x_90 = 112 := ex_90.trans ((congrArg gwo (show (20 : Int32).toNatClampNeg = 20 from by decide)).trans ((hwo 20 (by decide)).trans (by decide)))
                                                                                        refine lv_icmp_ne (tgt := 86) hx hb dX8_stands_74 (by decide) (fun c_91 => ?_) (fun c_91 => ?_)
                                                                                        · have fc_91 : x_89.toInt ≠ 112 := zf_ne c_91 rfl (by decide)
                                                                                          refine lv_aload_n hx hb dX8_stands_86 rfl (lv_at hl 2 rfl) ?_
                                                                                          refine va_get (D := D) (ci := 8) (v := .ref mwo) (C := RX8) (T := TX8) (N := 38) hx hb hts hi_X8_stands_8 hown hK hP 0 rfl rfl 23 (by decide) (hts (.fieldLink RX8 66 "TheLiningsInItModel" "words" "[I") (List.mem_of_getElem? (i := 1) rfl)) (fun _ h9 => h9) rfl dX8_stands_87 ?_
                                                                                          refine lv_iload_n hx hb dX8_stands_90 rfl (lv_at hl 1 rfl) ?_
                                                                                          refine va_iald hx hb hK hP 1 0 rfl rfl (zf_in (by decide) (by decide)) dX8_stands_91 ?_
                                                                                          refine lv_topi (fun x_92 ex_92 => ?_)
                                                                                          obtain rfl : x_92 = 112 := ex_92.trans ((congrArg gwo (show (20 : Int32).toNatClampNeg = 20 from by decide)).trans ((hwo 20 (by decide)).trans (by decide)))
                                                                                          refine lv_bipush (v := 32) hx hb dX8_stands_92 (by decide) ?_
                                                                                          refine lv_icmp_gt (tgt := 101) hx hb dX8_stands_94 (by decide) (fun c_93 => ?_) (fun c_93 => ?_)
                                                                                          · refine lv_iconst (v := 0) hx hb dX8_stands_101 (by decide) ?_
                                                                                            exact W.zret (v := 0) hx hb hr (by decide) (fun t ht hW => ⟨0, rfl, ⟨by decide, by decide, (show ((0 : Int32).toInt = 0 → ¬ (npl.toInt + 1 + 1 + 1 < nen.toInt ∧ (zChX gce (nba.toInt + npl.toInt).toNat).toInt = 112 ∧ (zChX gce (nba.toInt + (npl.toInt + 1)).toNat).toInt = 117 ∧ (zChX gce (nba.toInt + ((npl.toInt + 1) + 1)).toNat).toInt = 108 ∧ (zChX gce (nba.toInt + (((npl.toInt + 1) + 1) + 1)).toNat).toInt = 108)) ∧ ((0 : Int32).toInt = 1 → (npl.toInt + 1 + 1 + 1 < nen.toInt ∧ (zChX gce (nba.toInt + npl.toInt).toNat).toInt = 112 ∧ (zChX gce (nba.toInt + (npl.toInt + 1)).toNat).toInt = 117 ∧ (zChX gce (nba.toInt + ((npl.toInt + 1) + 1)).toNat).toInt = 108 ∧ (zChX gce (nba.toInt + (((npl.toInt + 1) + 1) + 1)).toNat).toInt = 108)) from by (have k9 : (0 : Int32).toInt = 0 := (by decide); first | exact ⟨fun h => absurd h (by decide), fun _ => ⟨by omega, by omega, by omega, by omega, by omega⟩⟩ | exact ⟨fun _ => (by omega), fun h => absurd h (by decide)⟩))⟩, ht⟩) (fun q hq => by cases hq) dX8_stands_102
                                                                                          · exact absurd c_93 (by decide)
                                                                                        · have fc_91 : x_89.toInt = 112 := zf_eq c_91 rfl (by decide)
                                                                                          obtain ⟨x_94, ex_94⟩ : ∃ y : Int32, y = npl + 1 := ⟨_, rfl⟩
                                                                                          have qx_94 : x_94.toInt = npl.toInt + 1 := dw_inc ex_94 fc_84
                                                                                          refine lv_iinc (v := x_94) (lv' := [(3, .int x_94), (2, .int 20), (0, .ref m0), (1, .int 3)]) hx hb dX8_stands_77 hl (k := 0) rfl ex_94.symm (by decide) rfl (fun ls hl => ?_)
                                                                                          refine lv_iinc (v := 21) (lv' := [(2, .int 21), (3, .int x_94), (0, .ref m0), (1, .int 3)]) hx hb dX8_stands_80 hl (k := 1) rfl (by decide) (by decide) rfl (fun ls hl => ?_)
                                                                                          refine lv_goto (tgt := 37) hx hb dX8_stands_83 (by decide) ?_
                                                                                          refine lv_aload_n hx hb dX8_stands_37 rfl (lv_at hl 2 rfl) ?_
                                                                                          refine va_get (D := D) (ci := 8) (v := .ref mwo) (C := RX8) (T := TX8) (N := 38) hx hb hts hi_X8_stands_8 hown hK hP 0 rfl rfl 23 (by decide) (hts (.fieldLink RX8 66 "TheLiningsInItModel" "words" "[I") (List.mem_of_getElem? (i := 1) rfl)) (fun _ h9 => h9) rfl dX8_stands_38 ?_
                                                                                          refine lv_iload_n hx hb dX8_stands_41 rfl (lv_at hl 0 rfl) ?_
                                                                                          refine va_iald hx hb hK hP 1 0 rfl rfl (zf_in (by decide) (by decide)) dX8_stands_42 ?_
                                                                                          refine lv_topi (fun x_95 ex_95 => ?_)
                                                                                          obtain rfl : x_95 = 117 := ex_95.trans ((congrArg gwo (show (21 : Int32).toNatClampNeg = 21 from by decide)).trans ((hwo 21 (by decide)).trans (by decide)))
                                                                                          refine lv_bipush (v := 32) hx hb dX8_stands_43 (by decide) ?_
                                                                                          refine lv_icmp_le (tgt := 86) hx hb dX8_stands_45 (by decide) (fun c_96 => ?_) (fun c_96 => ?_)
                                                                                          · exact absurd c_96 (by decide)
                                                                                          · refine lv_iload_n hx hb dX8_stands_48 rfl (lv_at hl 1 rfl) ?_
                                                                                            refine lv_aload_n hx hb dX8_stands_49 rfl (lv_at hl 2 rfl) ?_
                                                                                            refine va_get (D := D) (ci := 8) (v := .int nen) (C := RX8) (T := TX8) (N := 38) hx hb hts hi_X8_stands_8 hown hK hP 0 rfl rfl 28 (by decide) (hts (.fieldLink RX8 155 "TheLiningsInItModel" "end" "I") (List.mem_of_getElem? (i := 3) rfl)) (fun _ h9 => h9) rfl dX8_stands_50 ?_
                                                                                            refine lv_icmp_ge (tgt := 86) hx hb dX8_stands_53 (by decide) (fun c_97 => ?_) (fun c_97 => ?_)
                                                                                            · have fc_97 : nen.toInt ≤ x_94.toInt := zf_le c_97 rfl rfl
                                                                                              refine lv_aload_n hx hb dX8_stands_86 rfl (lv_at hl 2 rfl) ?_
                                                                                              refine va_get (D := D) (ci := 8) (v := .ref mwo) (C := RX8) (T := TX8) (N := 38) hx hb hts hi_X8_stands_8 hown hK hP 0 rfl rfl 23 (by decide) (hts (.fieldLink RX8 66 "TheLiningsInItModel" "words" "[I") (List.mem_of_getElem? (i := 1) rfl)) (fun _ h9 => h9) rfl dX8_stands_87 ?_
                                                                                              refine lv_iload_n hx hb dX8_stands_90 rfl (lv_at hl 0 rfl) ?_
                                                                                              refine va_iald hx hb hK hP 1 0 rfl rfl (zf_in (by decide) (by decide)) dX8_stands_91 ?_
                                                                                              refine lv_topi (fun x_98 ex_98 => ?_)
                                                                                              obtain rfl : x_98 = 117 := ex_98.trans ((congrArg gwo (show (21 : Int32).toNatClampNeg = 21 from by decide)).trans ((hwo 21 (by decide)).trans (by decide)))
                                                                                              refine lv_bipush (v := 32) hx hb dX8_stands_92 (by decide) ?_
                                                                                              refine lv_icmp_gt (tgt := 101) hx hb dX8_stands_94 (by decide) (fun c_99 => ?_) (fun c_99 => ?_)
                                                                                              · refine lv_iconst (v := 0) hx hb dX8_stands_101 (by decide) ?_
                                                                                                exact W.zret (v := 0) hx hb hr (by decide) (fun t ht hW => ⟨0, rfl, ⟨by decide, by decide, (show ((0 : Int32).toInt = 0 → ¬ (npl.toInt + 1 + 1 + 1 < nen.toInt ∧ (zChX gce (nba.toInt + npl.toInt).toNat).toInt = 112 ∧ (zChX gce (nba.toInt + (npl.toInt + 1)).toNat).toInt = 117 ∧ (zChX gce (nba.toInt + ((npl.toInt + 1) + 1)).toNat).toInt = 108 ∧ (zChX gce (nba.toInt + (((npl.toInt + 1) + 1) + 1)).toNat).toInt = 108)) ∧ ((0 : Int32).toInt = 1 → (npl.toInt + 1 + 1 + 1 < nen.toInt ∧ (zChX gce (nba.toInt + npl.toInt).toNat).toInt = 112 ∧ (zChX gce (nba.toInt + (npl.toInt + 1)).toNat).toInt = 117 ∧ (zChX gce (nba.toInt + ((npl.toInt + 1) + 1)).toNat).toInt = 108 ∧ (zChX gce (nba.toInt + (((npl.toInt + 1) + 1) + 1)).toNat).toInt = 108)) from by (have k9 : (0 : Int32).toInt = 0 := (by decide); first | exact ⟨fun h => absurd h (by decide), fun _ => ⟨by omega, by omega, by omega, by omega, by omega⟩⟩ | exact ⟨fun _ => (by omega), fun h => absurd h (by decide)⟩))⟩, ht⟩) (fun q hq => by cases hq) dX8_stands_102
                                                                                              · exact absurd c_99 (by decide)
                                                                                            · have fc_97 : x_94.toInt < nen.toInt := zf_nle c_97 rfl rfl
                                                                                              refine lv_aload_n hx hb dX8_stands_56 rfl (lv_at hl 2 rfl) ?_
                                                                                              refine va_get (D := D) (ci := 8) (v := .ref mce) (C := RX8) (T := TX8) (N := 38) hx hb hts hi_X8_stands_8 hown hK hP 0 rfl rfl 21 (by decide) (hts (.fieldLink RX8 59 "TheLiningsInItModel" "cells" "[J") (List.mem_of_getElem? (i := 4) rfl)) (fun _ h9 => h9) rfl dX8_stands_57 ?_
                                                                                              refine lv_aload_n hx hb dX8_stands_60 rfl (lv_at hl 2 rfl) ?_
                                                                                              refine va_get (D := D) (ci := 8) (v := .int nba) (C := RX8) (T := TX8) (N := 38) hx hb hts hi_X8_stands_8 hown hK hP 0 rfl rfl 26 (by decide) (hts (.fieldLink RX8 158 "TheLiningsInItModel" "base" "I") (List.mem_of_getElem? (i := 5) rfl)) (fun _ h9 => h9) rfl dX8_stands_61 ?_
                                                                                              refine lv_iload_n hx hb dX8_stands_64 rfl (lv_at hl 1 rfl) ?_
                                                                                              refine lv_iadd hx hb dX8_stands_65 ?_
                                                                                              refine lv_topi (fun x_100 ex_100 => ?_)
                                                                                              have qx_100 : x_100.toInt = nba.toInt + x_94.toInt := by rw [ex_100]; exact zf_add rfl rfl (by omega) (by omega)
                                                                                              refine va_lald hx hb hK hP 2 1 rfl rfl (zf_in (by omega) (by omega)) dX8_stands_66 ?_
                                                                                              refine lv_topl (fun x_101 ex_101 => ?_)
                                                                                              refine lv_l2i hx hb dX8_stands_67 rfl ?_
                                                                                              refine lv_topi (fun x_102 ex_102 => ?_)
                                                                                              have hcx_102 : x_102 = zChX gce (nba.toInt + x_94.toInt).toNat := by rw [ex_102, ex_101]; unfold zChX; congr 2; (show x_100.toInt.toNat = _; omega)
                                                                                              have hdx_102 : x_102.toInt = (zChX gce (nba.toInt + (npl.toInt + 1)).toNat).toInt := by rw [hcx_102, show x_94.toInt = (npl.toInt + 1) from by omega]
                                                                                              refine lv_aload_n hx hb dX8_stands_68 rfl (lv_at hl 2 rfl) ?_
                                                                                              refine va_get (D := D) (ci := 8) (v := .ref mwo) (C := RX8) (T := TX8) (N := 38) hx hb hts hi_X8_stands_8 hown hK hP 0 rfl rfl 23 (by decide) (hts (.fieldLink RX8 66 "TheLiningsInItModel" "words" "[I") (List.mem_of_getElem? (i := 1) rfl)) (fun _ h9 => h9) rfl dX8_stands_69 ?_
                                                                                              refine lv_iload_n hx hb dX8_stands_72 rfl (lv_at hl 0 rfl) ?_
                                                                                              refine va_iald hx hb hK hP 1 0 rfl rfl (zf_in (by decide) (by decide)) dX8_stands_73 ?_
                                                                                              refine lv_topi (fun x_103 ex_103 => ?_)
                                                                                              obtain rfl : x_103 = 117 := ex_103.trans ((congrArg gwo (show (21 : Int32).toNatClampNeg = 21 from by decide)).trans ((hwo 21 (by decide)).trans (by decide)))
                                                                                              refine lv_icmp_ne (tgt := 86) hx hb dX8_stands_74 (by decide) (fun c_104 => ?_) (fun c_104 => ?_)
                                                                                              · have fc_104 : x_102.toInt ≠ 117 := zf_ne c_104 rfl (by decide)
                                                                                                refine lv_aload_n hx hb dX8_stands_86 rfl (lv_at hl 2 rfl) ?_
                                                                                                refine va_get (D := D) (ci := 8) (v := .ref mwo) (C := RX8) (T := TX8) (N := 38) hx hb hts hi_X8_stands_8 hown hK hP 0 rfl rfl 23 (by decide) (hts (.fieldLink RX8 66 "TheLiningsInItModel" "words" "[I") (List.mem_of_getElem? (i := 1) rfl)) (fun _ h9 => h9) rfl dX8_stands_87 ?_
                                                                                                refine lv_iload_n hx hb dX8_stands_90 rfl (lv_at hl 0 rfl) ?_
                                                                                                refine va_iald hx hb hK hP 1 0 rfl rfl (zf_in (by decide) (by decide)) dX8_stands_91 ?_
                                                                                                refine lv_topi (fun x_105 ex_105 => ?_)
                                                                                                obtain rfl : x_105 = 117 := ex_105.trans ((congrArg gwo (show (21 : Int32).toNatClampNeg = 21 from by decide)).trans ((hwo 21 (by decide)).trans (by decide)))
                                                                                                refine lv_bipush (v := 32) hx hb dX8_stands_92 (by decide) ?_
                                                                                                refine lv_icmp_gt (tgt := 101) hx hb dX8_stands_94 (by decide) (fun c_106 => ?_) (fun c_106 => ?_)
                                                                                                · refine lv_iconst (v := 0) hx hb dX8_stands_101 (by decide) ?_
                                                                                                  exact W.zret (v := 0) hx hb hr (by decide) (fun t ht hW => ⟨0, rfl, ⟨by decide, by decide, (show ((0 : Int32).toInt = 0 → ¬ (npl.toInt + 1 + 1 + 1 < nen.toInt ∧ (zChX gce (nba.toInt + npl.toInt).toNat).toInt = 112 ∧ (zChX gce (nba.toInt + (npl.toInt + 1)).toNat).toInt = 117 ∧ (zChX gce (nba.toInt + ((npl.toInt + 1) + 1)).toNat).toInt = 108 ∧ (zChX gce (nba.toInt + (((npl.toInt + 1) + 1) + 1)).toNat).toInt = 108)) ∧ ((0 : Int32).toInt = 1 → (npl.toInt + 1 + 1 + 1 < nen.toInt ∧ (zChX gce (nba.toInt + npl.toInt).toNat).toInt = 112 ∧ (zChX gce (nba.toInt + (npl.toInt + 1)).toNat).toInt = 117 ∧ (zChX gce (nba.toInt + ((npl.toInt + 1) + 1)).toNat).toInt = 108 ∧ (zChX gce (nba.toInt + (((npl.toInt + 1) + 1) + 1)).toNat).toInt = 108)) from by (have k9 : (0 : Int32).toInt = 0 := (by decide); first | exact ⟨fun h => absurd h (by decide), fun _ => ⟨by omega, by omega, by omega, by omega, by omega⟩⟩ | exact ⟨fun _ => (by omega), fun h => absurd h (by decide)⟩))⟩, ht⟩) (fun q hq => by cases hq) dX8_stands_102
                                                                                                · exact absurd c_106 (by decide)
                                                                                              · have fc_104 : x_102.toInt = 117 := zf_eq c_104 rfl (by decide)
                                                                                                obtain ⟨x_107, ex_107⟩ : ∃ y : Int32, y = x_94 + 1 := ⟨_, rfl⟩
                                                                                                have qx_107 : x_107.toInt = x_94.toInt + 1 := dw_inc ex_107 fc_97
                                                                                                refine lv_iinc (v := x_107) (lv' := [(3, .int x_107), (2, .int 21), (0, .ref m0), (1, .int 3)]) hx hb dX8_stands_77 hl (k := 1) rfl ex_107.symm (by decide) rfl (fun ls hl => ?_)
                                                                                                refine lv_iinc (v := 22) (lv' := [(2, .int 22), (3, .int x_107), (0, .ref m0), (1, .int 3)]) hx hb dX8_stands_80 hl (k := 1) rfl (by decide) (by decide) rfl (fun ls hl => ?_)
                                                                                                refine lv_goto (tgt := 37) hx hb dX8_stands_83 (by decide) ?_
                                                                                                refine lv_aload_n hx hb dX8_stands_37 rfl (lv_at hl 2 rfl) ?_
                                                                                                refine va_get (D := D) (ci := 8) (v := .ref mwo) (C := RX8) (T := TX8) (N := 38) hx hb hts hi_X8_stands_8 hown hK hP 0 rfl rfl 23 (by decide) (hts (.fieldLink RX8 66 "TheLiningsInItModel" "words" "[I") (List.mem_of_getElem? (i := 1) rfl)) (fun _ h9 => h9) rfl dX8_stands_38 ?_
                                                                                                refine lv_iload_n hx hb dX8_stands_41 rfl (lv_at hl 0 rfl) ?_
                                                                                                refine va_iald hx hb hK hP 1 0 rfl rfl (zf_in (by decide) (by decide)) dX8_stands_42 ?_
                                                                                                refine lv_topi (fun x_108 ex_108 => ?_)
                                                                                                obtain rfl : x_108 = 108 := ex_108.trans ((congrArg gwo (show (22 : Int32).toNatClampNeg = 22 from by decide)).trans ((hwo 22 (by decide)).trans (by decide)))
                                                                                                refine lv_bipush (v := 32) hx hb dX8_stands_43 (by decide) ?_
                                                                                                refine lv_icmp_le (tgt := 86) hx hb dX8_stands_45 (by decide) (fun c_109 => ?_) (fun c_109 => ?_)
                                                                                                · exact absurd c_109 (by decide)
                                                                                                · refine lv_iload_n hx hb dX8_stands_48 rfl (lv_at hl 1 rfl) ?_
                                                                                                  refine lv_aload_n hx hb dX8_stands_49 rfl (lv_at hl 2 rfl) ?_
                                                                                                  refine va_get (D := D) (ci := 8) (v := .int nen) (C := RX8) (T := TX8) (N := 38) hx hb hts hi_X8_stands_8 hown hK hP 0 rfl rfl 28 (by decide) (hts (.fieldLink RX8 155 "TheLiningsInItModel" "end" "I") (List.mem_of_getElem? (i := 3) rfl)) (fun _ h9 => h9) rfl dX8_stands_50 ?_
                                                                                                  refine lv_icmp_ge (tgt := 86) hx hb dX8_stands_53 (by decide) (fun c_110 => ?_) (fun c_110 => ?_)
                                                                                                  · have fc_110 : nen.toInt ≤ x_107.toInt := zf_le c_110 rfl rfl
                                                                                                    refine lv_aload_n hx hb dX8_stands_86 rfl (lv_at hl 2 rfl) ?_
                                                                                                    refine va_get (D := D) (ci := 8) (v := .ref mwo) (C := RX8) (T := TX8) (N := 38) hx hb hts hi_X8_stands_8 hown hK hP 0 rfl rfl 23 (by decide) (hts (.fieldLink RX8 66 "TheLiningsInItModel" "words" "[I") (List.mem_of_getElem? (i := 1) rfl)) (fun _ h9 => h9) rfl dX8_stands_87 ?_
                                                                                                    refine lv_iload_n hx hb dX8_stands_90 rfl (lv_at hl 0 rfl) ?_
                                                                                                    refine va_iald hx hb hK hP 1 0 rfl rfl (zf_in (by decide) (by decide)) dX8_stands_91 ?_
                                                                                                    refine lv_topi (fun x_111 ex_111 => ?_)
                                                                                                    obtain rfl : x_111 = 108 := ex_111.trans ((congrArg gwo (show (22 : Int32).toNatClampNeg = 22 from by decide)).trans ((hwo 22 (by decide)).trans (by decide)))
                                                                                                    refine lv_bipush (v := 32) hx hb dX8_stands_92 (by decide) ?_
                                                                                                    refine lv_icmp_gt (tgt := 101) hx hb dX8_stands_94 (by decide) (fun c_112 => ?_) (fun c_112 => ?_)
                                                                                                    · refine lv_iconst (v := 0) hx hb dX8_stands_101 (by decide) ?_
                                                                                                      exact W.zret (v := 0) hx hb hr (by decide) (fun t ht hW => ⟨0, rfl, ⟨by decide, by decide, (show ((0 : Int32).toInt = 0 → ¬ (npl.toInt + 1 + 1 + 1 < nen.toInt ∧ (zChX gce (nba.toInt + npl.toInt).toNat).toInt = 112 ∧ (zChX gce (nba.toInt + (npl.toInt + 1)).toNat).toInt = 117 ∧ (zChX gce (nba.toInt + ((npl.toInt + 1) + 1)).toNat).toInt = 108 ∧ (zChX gce (nba.toInt + (((npl.toInt + 1) + 1) + 1)).toNat).toInt = 108)) ∧ ((0 : Int32).toInt = 1 → (npl.toInt + 1 + 1 + 1 < nen.toInt ∧ (zChX gce (nba.toInt + npl.toInt).toNat).toInt = 112 ∧ (zChX gce (nba.toInt + (npl.toInt + 1)).toNat).toInt = 117 ∧ (zChX gce (nba.toInt + ((npl.toInt + 1) + 1)).toNat).toInt = 108 ∧ (zChX gce (nba.toInt + (((npl.toInt + 1) + 1) + 1)).toNat).toInt = 108)) from by (have k9 : (0 : Int32).toInt = 0 := (by decide); first | exact ⟨fun h => absurd h (by decide), fun _ => ⟨by omega, by omega, by omega, by omega, by omega⟩⟩ | exact ⟨fun _ => (by omega), fun h => absurd h (by decide)⟩))⟩, ht⟩) (fun q hq => by cases hq) dX8_stands_102
                                                                                                    · exact absurd c_112 (by decide)
                                                                                                  · have fc_110 : x_107.toInt < nen.toInt := zf_nle c_110 rfl rfl
                                                                                                    refine lv_aload_n hx hb dX8_stands_56 rfl (lv_at hl 2 rfl) ?_
                                                                                                    refine va_get (D := D) (ci := 8) (v := .ref mce) (C := RX8) (T := TX8) (N := 38) hx hb hts hi_X8_stands_8 hown hK hP 0 rfl rfl 21 (by decide) (hts (.fieldLink RX8 59 "TheLiningsInItModel" "cells" "[J") (List.mem_of_getElem? (i := 4) rfl)) (fun _ h9 => h9) rfl dX8_stands_57 ?_
                                                                                                    refine lv_aload_n hx hb dX8_stands_60 rfl (lv_at hl 2 rfl) ?_
                                                                                                    refine va_get (D := D) (ci := 8) (v := .int nba) (C := RX8) (T := TX8) (N := 38) hx hb hts hi_X8_stands_8 hown hK hP 0 rfl rfl 26 (by decide) (hts (.fieldLink RX8 158 "TheLiningsInItModel" "base" "I") (List.mem_of_getElem? (i := 5) rfl)) (fun _ h9 => h9) rfl dX8_stands_61 ?_
                                                                                                    refine lv_iload_n hx hb dX8_stands_64 rfl (lv_at hl 1 rfl) ?_
                                                                                                    refine lv_iadd hx hb dX8_stands_65 ?_
                                                                                                    refine lv_topi (fun x_113 ex_113 => ?_)
                                                                                                    have qx_113 : x_113.toInt = nba.toInt + x_107.toInt := by rw [ex_113]; exact zf_add rfl rfl (by omega) (by omega)
                                                                                                    refine va_lald hx hb hK hP 2 1 rfl rfl (zf_in (by omega) (by omega)) dX8_stands_66 ?_
                                                                                                    refine lv_topl (fun x_114 ex_114 => ?_)
                                                                                                    refine lv_l2i hx hb dX8_stands_67 rfl ?_
                                                                                                    refine lv_topi (fun x_115 ex_115 => ?_)
                                                                                                    have hcx_115 : x_115 = zChX gce (nba.toInt + x_107.toInt).toNat := by rw [ex_115, ex_114]; unfold zChX; congr 2; (show x_113.toInt.toNat = _; omega)
                                                                                                    have hdx_115 : x_115.toInt = (zChX gce (nba.toInt + ((npl.toInt + 1) + 1)).toNat).toInt := by rw [hcx_115, show x_107.toInt = ((npl.toInt + 1) + 1) from by omega]
                                                                                                    refine lv_aload_n hx hb dX8_stands_68 rfl (lv_at hl 2 rfl) ?_
                                                                                                    refine va_get (D := D) (ci := 8) (v := .ref mwo) (C := RX8) (T := TX8) (N := 38) hx hb hts hi_X8_stands_8 hown hK hP 0 rfl rfl 23 (by decide) (hts (.fieldLink RX8 66 "TheLiningsInItModel" "words" "[I") (List.mem_of_getElem? (i := 1) rfl)) (fun _ h9 => h9) rfl dX8_stands_69 ?_
                                                                                                    refine lv_iload_n hx hb dX8_stands_72 rfl (lv_at hl 0 rfl) ?_
                                                                                                    refine va_iald hx hb hK hP 1 0 rfl rfl (zf_in (by decide) (by decide)) dX8_stands_73 ?_
                                                                                                    refine lv_topi (fun x_116 ex_116 => ?_)
                                                                                                    obtain rfl : x_116 = 108 := ex_116.trans ((congrArg gwo (show (22 : Int32).toNatClampNeg = 22 from by decide)).trans ((hwo 22 (by decide)).trans (by decide)))
                                                                                                    refine lv_icmp_ne (tgt := 86) hx hb dX8_stands_74 (by decide) (fun c_117 => ?_) (fun c_117 => ?_)
                                                                                                    · have fc_117 : x_115.toInt ≠ 108 := zf_ne c_117 rfl (by decide)
                                                                                                      refine lv_aload_n hx hb dX8_stands_86 rfl (lv_at hl 2 rfl) ?_
                                                                                                      refine va_get (D := D) (ci := 8) (v := .ref mwo) (C := RX8) (T := TX8) (N := 38) hx hb hts hi_X8_stands_8 hown hK hP 0 rfl rfl 23 (by decide) (hts (.fieldLink RX8 66 "TheLiningsInItModel" "words" "[I") (List.mem_of_getElem? (i := 1) rfl)) (fun _ h9 => h9) rfl dX8_stands_87 ?_
                                                                                                      refine lv_iload_n hx hb dX8_stands_90 rfl (lv_at hl 0 rfl) ?_
                                                                                                      refine va_iald hx hb hK hP 1 0 rfl rfl (zf_in (by decide) (by decide)) dX8_stands_91 ?_
                                                                                                      refine lv_topi (fun x_118 ex_118 => ?_)
                                                                                                      obtain rfl : x_118 = 108 := ex_118.trans ((congrArg gwo (show (22 : Int32).toNatClampNeg = 22 from by decide)).trans ((hwo 22 (by decide)).trans (by decide)))
                                                                                                      refine lv_bipush (v := 32) hx hb dX8_stands_92 (by decide) ?_
                                                                                                      refine lv_icmp_gt (tgt := 101) hx hb dX8_stands_94 (by decide) (fun c_119 => ?_) (fun c_119 => ?_)
                                                                                                      · refine lv_iconst (v := 0) hx hb dX8_stands_101 (by decide) ?_
                                                                                                        exact W.zret (v := 0) hx hb hr (by decide) (fun t ht hW => ⟨0, rfl, ⟨by decide, by decide, (show ((0 : Int32).toInt = 0 → ¬ (npl.toInt + 1 + 1 + 1 < nen.toInt ∧ (zChX gce (nba.toInt + npl.toInt).toNat).toInt = 112 ∧ (zChX gce (nba.toInt + (npl.toInt + 1)).toNat).toInt = 117 ∧ (zChX gce (nba.toInt + ((npl.toInt + 1) + 1)).toNat).toInt = 108 ∧ (zChX gce (nba.toInt + (((npl.toInt + 1) + 1) + 1)).toNat).toInt = 108)) ∧ ((0 : Int32).toInt = 1 → (npl.toInt + 1 + 1 + 1 < nen.toInt ∧ (zChX gce (nba.toInt + npl.toInt).toNat).toInt = 112 ∧ (zChX gce (nba.toInt + (npl.toInt + 1)).toNat).toInt = 117 ∧ (zChX gce (nba.toInt + ((npl.toInt + 1) + 1)).toNat).toInt = 108 ∧ (zChX gce (nba.toInt + (((npl.toInt + 1) + 1) + 1)).toNat).toInt = 108)) from by (have k9 : (0 : Int32).toInt = 0 := (by decide); first | exact ⟨fun h => absurd h (by decide), fun _ => ⟨by omega, by omega, by omega, by omega, by omega⟩⟩ | exact ⟨fun _ => (by omega), fun h => absurd h (by decide)⟩))⟩, ht⟩) (fun q hq => by cases hq) dX8_stands_102
                                                                                                      · exact absurd c_119 (by decide)
                                                                                                    · have fc_117 : x_115.toInt = 108 := zf_eq c_117 rfl (by decide)
                                                                                                      obtain ⟨x_120, ex_120⟩ : ∃ y : Int32, y = x_107 + 1 := ⟨_, rfl⟩
                                                                                                      have qx_120 : x_120.toInt = x_107.toInt + 1 := dw_inc ex_120 fc_110
                                                                                                      refine lv_iinc (v := x_120) (lv' := [(3, .int x_120), (2, .int 22), (0, .ref m0), (1, .int 3)]) hx hb dX8_stands_77 hl (k := 1) rfl ex_120.symm (by decide) rfl (fun ls hl => ?_)
                                                                                                      refine lv_iinc (v := 23) (lv' := [(2, .int 23), (3, .int x_120), (0, .ref m0), (1, .int 3)]) hx hb dX8_stands_80 hl (k := 1) rfl (by decide) (by decide) rfl (fun ls hl => ?_)
                                                                                                      refine lv_goto (tgt := 37) hx hb dX8_stands_83 (by decide) ?_
                                                                                                      refine lv_aload_n hx hb dX8_stands_37 rfl (lv_at hl 2 rfl) ?_
                                                                                                      refine va_get (D := D) (ci := 8) (v := .ref mwo) (C := RX8) (T := TX8) (N := 38) hx hb hts hi_X8_stands_8 hown hK hP 0 rfl rfl 23 (by decide) (hts (.fieldLink RX8 66 "TheLiningsInItModel" "words" "[I") (List.mem_of_getElem? (i := 1) rfl)) (fun _ h9 => h9) rfl dX8_stands_38 ?_
                                                                                                      refine lv_iload_n hx hb dX8_stands_41 rfl (lv_at hl 0 rfl) ?_
                                                                                                      refine va_iald hx hb hK hP 1 0 rfl rfl (zf_in (by decide) (by decide)) dX8_stands_42 ?_
                                                                                                      refine lv_topi (fun x_121 ex_121 => ?_)
                                                                                                      obtain rfl : x_121 = 108 := ex_121.trans ((congrArg gwo (show (23 : Int32).toNatClampNeg = 23 from by decide)).trans ((hwo 23 (by decide)).trans (by decide)))
                                                                                                      refine lv_bipush (v := 32) hx hb dX8_stands_43 (by decide) ?_
                                                                                                      refine lv_icmp_le (tgt := 86) hx hb dX8_stands_45 (by decide) (fun c_122 => ?_) (fun c_122 => ?_)
                                                                                                      · exact absurd c_122 (by decide)
                                                                                                      · refine lv_iload_n hx hb dX8_stands_48 rfl (lv_at hl 1 rfl) ?_
                                                                                                        refine lv_aload_n hx hb dX8_stands_49 rfl (lv_at hl 2 rfl) ?_
                                                                                                        refine va_get (D := D) (ci := 8) (v := .int nen) (C := RX8) (T := TX8) (N := 38) hx hb hts hi_X8_stands_8 hown hK hP 0 rfl rfl 28 (by decide) (hts (.fieldLink RX8 155 "TheLiningsInItModel" "end" "I") (List.mem_of_getElem? (i := 3) rfl)) (fun _ h9 => h9) rfl dX8_stands_50 ?_
                                                                                                        refine lv_icmp_ge (tgt := 86) hx hb dX8_stands_53 (by decide) (fun c_123 => ?_) (fun c_123 => ?_)
                                                                                                        · have fc_123 : nen.toInt ≤ x_120.toInt := zf_le c_123 rfl rfl
                                                                                                          refine lv_aload_n hx hb dX8_stands_86 rfl (lv_at hl 2 rfl) ?_
                                                                                                          refine va_get (D := D) (ci := 8) (v := .ref mwo) (C := RX8) (T := TX8) (N := 38) hx hb hts hi_X8_stands_8 hown hK hP 0 rfl rfl 23 (by decide) (hts (.fieldLink RX8 66 "TheLiningsInItModel" "words" "[I") (List.mem_of_getElem? (i := 1) rfl)) (fun _ h9 => h9) rfl dX8_stands_87 ?_
                                                                                                          refine lv_iload_n hx hb dX8_stands_90 rfl (lv_at hl 0 rfl) ?_
                                                                                                          refine va_iald hx hb hK hP 1 0 rfl rfl (zf_in (by decide) (by decide)) dX8_stands_91 ?_
                                                                                                          refine lv_topi (fun x_124 ex_124 => ?_)
                                                                                                          obtain rfl : x_124 = 108 := ex_124.trans ((congrArg gwo (show (23 : Int32).toNatClampNeg = 23 from by decide)).trans ((hwo 23 (by decide)).trans (by decide)))
                                                                                                          refine lv_bipush (v := 32) hx hb dX8_stands_92 (by decide) ?_
                                                                                                          refine lv_icmp_gt (tgt := 101) hx hb dX8_stands_94 (by decide) (fun c_125 => ?_) (fun c_125 => ?_)
                                                                                                          · refine lv_iconst (v := 0) hx hb dX8_stands_101 (by decide) ?_
                                                                                                            exact W.zret (v := 0) hx hb hr (by decide) (fun t ht hW => ⟨0, rfl, ⟨by decide, by decide, (show ((0 : Int32).toInt = 0 → ¬ (npl.toInt + 1 + 1 + 1 < nen.toInt ∧ (zChX gce (nba.toInt + npl.toInt).toNat).toInt = 112 ∧ (zChX gce (nba.toInt + (npl.toInt + 1)).toNat).toInt = 117 ∧ (zChX gce (nba.toInt + ((npl.toInt + 1) + 1)).toNat).toInt = 108 ∧ (zChX gce (nba.toInt + (((npl.toInt + 1) + 1) + 1)).toNat).toInt = 108)) ∧ ((0 : Int32).toInt = 1 → (npl.toInt + 1 + 1 + 1 < nen.toInt ∧ (zChX gce (nba.toInt + npl.toInt).toNat).toInt = 112 ∧ (zChX gce (nba.toInt + (npl.toInt + 1)).toNat).toInt = 117 ∧ (zChX gce (nba.toInt + ((npl.toInt + 1) + 1)).toNat).toInt = 108 ∧ (zChX gce (nba.toInt + (((npl.toInt + 1) + 1) + 1)).toNat).toInt = 108)) from by (have k9 : (0 : Int32).toInt = 0 := (by decide); first | exact ⟨fun h => absurd h (by decide), fun _ => ⟨by omega, by omega, by omega, by omega, by omega⟩⟩ | exact ⟨fun _ => (by omega), fun h => absurd h (by decide)⟩))⟩, ht⟩) (fun q hq => by cases hq) dX8_stands_102
                                                                                                          · exact absurd c_125 (by decide)
                                                                                                        · have fc_123 : x_120.toInt < nen.toInt := zf_nle c_123 rfl rfl
                                                                                                          refine lv_aload_n hx hb dX8_stands_56 rfl (lv_at hl 2 rfl) ?_
                                                                                                          refine va_get (D := D) (ci := 8) (v := .ref mce) (C := RX8) (T := TX8) (N := 38) hx hb hts hi_X8_stands_8 hown hK hP 0 rfl rfl 21 (by decide) (hts (.fieldLink RX8 59 "TheLiningsInItModel" "cells" "[J") (List.mem_of_getElem? (i := 4) rfl)) (fun _ h9 => h9) rfl dX8_stands_57 ?_
                                                                                                          refine lv_aload_n hx hb dX8_stands_60 rfl (lv_at hl 2 rfl) ?_
                                                                                                          refine va_get (D := D) (ci := 8) (v := .int nba) (C := RX8) (T := TX8) (N := 38) hx hb hts hi_X8_stands_8 hown hK hP 0 rfl rfl 26 (by decide) (hts (.fieldLink RX8 158 "TheLiningsInItModel" "base" "I") (List.mem_of_getElem? (i := 5) rfl)) (fun _ h9 => h9) rfl dX8_stands_61 ?_
                                                                                                          refine lv_iload_n hx hb dX8_stands_64 rfl (lv_at hl 1 rfl) ?_
                                                                                                          refine lv_iadd hx hb dX8_stands_65 ?_
                                                                                                          refine lv_topi (fun x_126 ex_126 => ?_)
                                                                                                          have qx_126 : x_126.toInt = nba.toInt + x_120.toInt := by rw [ex_126]; exact zf_add rfl rfl (by omega) (by omega)
                                                                                                          refine va_lald hx hb hK hP 2 1 rfl rfl (zf_in (by omega) (by omega)) dX8_stands_66 ?_
                                                                                                          refine lv_topl (fun x_127 ex_127 => ?_)
                                                                                                          refine lv_l2i hx hb dX8_stands_67 rfl ?_
                                                                                                          refine lv_topi (fun x_128 ex_128 => ?_)
                                                                                                          have hcx_128 : x_128 = zChX gce (nba.toInt + x_120.toInt).toNat := by rw [ex_128, ex_127]; unfold zChX; congr 2; (show x_126.toInt.toNat = _; omega)
                                                                                                          have hdx_128 : x_128.toInt = (zChX gce (nba.toInt + (((npl.toInt + 1) + 1) + 1)).toNat).toInt := by rw [hcx_128, show x_120.toInt = (((npl.toInt + 1) + 1) + 1) from by omega]
                                                                                                          refine lv_aload_n hx hb dX8_stands_68 rfl (lv_at hl 2 rfl) ?_
                                                                                                          refine va_get (D := D) (ci := 8) (v := .ref mwo) (C := RX8) (T := TX8) (N := 38) hx hb hts hi_X8_stands_8 hown hK hP 0 rfl rfl 23 (by decide) (hts (.fieldLink RX8 66 "TheLiningsInItModel" "words" "[I") (List.mem_of_getElem? (i := 1) rfl)) (fun _ h9 => h9) rfl dX8_stands_69 ?_
                                                                                                          refine lv_iload_n hx hb dX8_stands_72 rfl (lv_at hl 0 rfl) ?_
                                                                                                          refine va_iald hx hb hK hP 1 0 rfl rfl (zf_in (by decide) (by decide)) dX8_stands_73 ?_
                                                                                                          refine lv_topi (fun x_129 ex_129 => ?_)
                                                                                                          obtain rfl : x_129 = 108 := ex_129.trans ((congrArg gwo (show (23 : Int32).toNatClampNeg = 23 from by decide)).trans ((hwo 23 (by decide)).trans (by decide)))
                                                                                                          refine lv_icmp_ne (tgt := 86) hx hb dX8_stands_74 (by decide) (fun c_130 => ?_) (fun c_130 => ?_)
                                                                                                          · have fc_130 : x_128.toInt ≠ 108 := zf_ne c_130 rfl (by decide)
                                                                                                            refine lv_aload_n hx hb dX8_stands_86 rfl (lv_at hl 2 rfl) ?_
                                                                                                            refine va_get (D := D) (ci := 8) (v := .ref mwo) (C := RX8) (T := TX8) (N := 38) hx hb hts hi_X8_stands_8 hown hK hP 0 rfl rfl 23 (by decide) (hts (.fieldLink RX8 66 "TheLiningsInItModel" "words" "[I") (List.mem_of_getElem? (i := 1) rfl)) (fun _ h9 => h9) rfl dX8_stands_87 ?_
                                                                                                            refine lv_iload_n hx hb dX8_stands_90 rfl (lv_at hl 0 rfl) ?_
                                                                                                            refine va_iald hx hb hK hP 1 0 rfl rfl (zf_in (by decide) (by decide)) dX8_stands_91 ?_
                                                                                                            refine lv_topi (fun x_131 ex_131 => ?_)
                                                                                                            obtain rfl : x_131 = 108 := ex_131.trans ((congrArg gwo (show (23 : Int32).toNatClampNeg = 23 from by decide)).trans ((hwo 23 (by decide)).trans (by decide)))
                                                                                                            refine lv_bipush (v := 32) hx hb dX8_stands_92 (by decide) ?_
                                                                                                            refine lv_icmp_gt (tgt := 101) hx hb dX8_stands_94 (by decide) (fun c_132 => ?_) (fun c_132 => ?_)
                                                                                                            · refine lv_iconst (v := 0) hx hb dX8_stands_101 (by decide) ?_
                                                                                                              exact W.zret (v := 0) hx hb hr (by decide) (fun t ht hW => ⟨0, rfl, ⟨by decide, by decide, (show ((0 : Int32).toInt = 0 → ¬ (npl.toInt + 1 + 1 + 1 < nen.toInt ∧ (zChX gce (nba.toInt + npl.toInt).toNat).toInt = 112 ∧ (zChX gce (nba.toInt + (npl.toInt + 1)).toNat).toInt = 117 ∧ (zChX gce (nba.toInt + ((npl.toInt + 1) + 1)).toNat).toInt = 108 ∧ (zChX gce (nba.toInt + (((npl.toInt + 1) + 1) + 1)).toNat).toInt = 108)) ∧ ((0 : Int32).toInt = 1 → (npl.toInt + 1 + 1 + 1 < nen.toInt ∧ (zChX gce (nba.toInt + npl.toInt).toNat).toInt = 112 ∧ (zChX gce (nba.toInt + (npl.toInt + 1)).toNat).toInt = 117 ∧ (zChX gce (nba.toInt + ((npl.toInt + 1) + 1)).toNat).toInt = 108 ∧ (zChX gce (nba.toInt + (((npl.toInt + 1) + 1) + 1)).toNat).toInt = 108)) from by (have k9 : (0 : Int32).toInt = 0 := (by decide); first | exact ⟨fun h => absurd h (by decide), fun _ => ⟨by omega, by omega, by omega, by omega, by omega⟩⟩ | exact ⟨fun _ => (by omega), fun h => absurd h (by decide)⟩))⟩, ht⟩) (fun q hq => by cases hq) dX8_stands_102
                                                                                                            · exact absurd c_132 (by decide)
                                                                                                          · have fc_130 : x_128.toInt = 108 := zf_eq c_130 rfl (by decide)
                                                                                                            obtain ⟨x_133, ex_133⟩ : ∃ y : Int32, y = x_120 + 1 := ⟨_, rfl⟩
                                                                                                            have qx_133 : x_133.toInt = x_120.toInt + 1 := dw_inc ex_133 fc_123
                                                                                                            refine lv_iinc (v := x_133) (lv' := [(3, .int x_133), (2, .int 23), (0, .ref m0), (1, .int 3)]) hx hb dX8_stands_77 hl (k := 1) rfl ex_133.symm (by decide) rfl (fun ls hl => ?_)
                                                                                                            refine lv_iinc (v := 24) (lv' := [(2, .int 24), (3, .int x_133), (0, .ref m0), (1, .int 3)]) hx hb dX8_stands_80 hl (k := 1) rfl (by decide) (by decide) rfl (fun ls hl => ?_)
                                                                                                            refine lv_goto (tgt := 37) hx hb dX8_stands_83 (by decide) ?_
                                                                                                            refine lv_aload_n hx hb dX8_stands_37 rfl (lv_at hl 2 rfl) ?_
                                                                                                            refine va_get (D := D) (ci := 8) (v := .ref mwo) (C := RX8) (T := TX8) (N := 38) hx hb hts hi_X8_stands_8 hown hK hP 0 rfl rfl 23 (by decide) (hts (.fieldLink RX8 66 "TheLiningsInItModel" "words" "[I") (List.mem_of_getElem? (i := 1) rfl)) (fun _ h9 => h9) rfl dX8_stands_38 ?_
                                                                                                            refine lv_iload_n hx hb dX8_stands_41 rfl (lv_at hl 0 rfl) ?_
                                                                                                            refine va_iald hx hb hK hP 1 0 rfl rfl (zf_in (by decide) (by decide)) dX8_stands_42 ?_
                                                                                                            refine lv_topi (fun x_134 ex_134 => ?_)
                                                                                                            obtain rfl : x_134 = 32 := ex_134.trans ((congrArg gwo (show (24 : Int32).toNatClampNeg = 24 from by decide)).trans ((hwo 24 (by decide)).trans (by decide)))
                                                                                                            refine lv_bipush (v := 32) hx hb dX8_stands_43 (by decide) ?_
                                                                                                            refine lv_icmp_le (tgt := 86) hx hb dX8_stands_45 (by decide) (fun c_135 => ?_) (fun c_135 => ?_)
                                                                                                            · refine lv_aload_n hx hb dX8_stands_86 rfl (lv_at hl 2 rfl) ?_
                                                                                                              refine va_get (D := D) (ci := 8) (v := .ref mwo) (C := RX8) (T := TX8) (N := 38) hx hb hts hi_X8_stands_8 hown hK hP 0 rfl rfl 23 (by decide) (hts (.fieldLink RX8 66 "TheLiningsInItModel" "words" "[I") (List.mem_of_getElem? (i := 1) rfl)) (fun _ h9 => h9) rfl dX8_stands_87 ?_
                                                                                                              refine lv_iload_n hx hb dX8_stands_90 rfl (lv_at hl 0 rfl) ?_
                                                                                                              refine va_iald hx hb hK hP 1 0 rfl rfl (zf_in (by decide) (by decide)) dX8_stands_91 ?_
                                                                                                              refine lv_topi (fun x_136 ex_136 => ?_)
                                                                                                              obtain rfl : x_136 = 32 := ex_136.trans ((congrArg gwo (show (24 : Int32).toNatClampNeg = 24 from by decide)).trans ((hwo 24 (by decide)).trans (by decide)))
                                                                                                              refine lv_bipush (v := 32) hx hb dX8_stands_92 (by decide) ?_
                                                                                                              refine lv_icmp_gt (tgt := 101) hx hb dX8_stands_94 (by decide) (fun c_137 => ?_) (fun c_137 => ?_)
                                                                                                              · exact absurd c_137 (by decide)
                                                                                                              · refine lv_iconst (v := 1) hx hb dX8_stands_97 (by decide) ?_
                                                                                                                refine lv_goto (tgt := 102) hx hb dX8_stands_98 (by decide) ?_
                                                                                                                exact W.zret (v := 1) hx hb hr (by decide) (fun t ht hW => ⟨1, rfl, ⟨by decide, by decide, (show ((1 : Int32).toInt = 0 → ¬ (npl.toInt + 1 + 1 + 1 < nen.toInt ∧ (zChX gce (nba.toInt + npl.toInt).toNat).toInt = 112 ∧ (zChX gce (nba.toInt + (npl.toInt + 1)).toNat).toInt = 117 ∧ (zChX gce (nba.toInt + ((npl.toInt + 1) + 1)).toNat).toInt = 108 ∧ (zChX gce (nba.toInt + (((npl.toInt + 1) + 1) + 1)).toNat).toInt = 108)) ∧ ((1 : Int32).toInt = 1 → (npl.toInt + 1 + 1 + 1 < nen.toInt ∧ (zChX gce (nba.toInt + npl.toInt).toNat).toInt = 112 ∧ (zChX gce (nba.toInt + (npl.toInt + 1)).toNat).toInt = 117 ∧ (zChX gce (nba.toInt + ((npl.toInt + 1) + 1)).toNat).toInt = 108 ∧ (zChX gce (nba.toInt + (((npl.toInt + 1) + 1) + 1)).toNat).toInt = 108)) from by (have k9 : (1 : Int32).toInt = 1 := (by decide); first | exact ⟨fun h => absurd h (by decide), fun _ => ⟨by omega, by omega, by omega, by omega, by omega⟩⟩ | exact ⟨fun _ => (by omega), fun h => absurd h (by decide)⟩))⟩, ht⟩) (fun q hq => by cases hq) dX8_stands_102
                                                                                                            · exact absurd c_135 (by decide)
                                                                                  · exact absurd c_81 (by decide)
                                                                            · exact absurd c_75 (by decide)
                                                                        · exact absurd c_71 (by decide)
                                                                    · exact absurd c_67 (by decide)
                                                                · exact absurd c_63 (by decide)
                                                            · exact absurd c_59 (by decide)
                                                        · exact absurd c_55 (by decide)
                                                · exact absurd c_47 (by decide)
                                            · exact absurd c_43 (by decide)
                                        · exact absurd c_39 (by decide)
                                    · exact absurd c_35 (by decide)
                                · exact absurd c_31 (by decide)
                        · exact absurd c_23 (by decide)
                    · exact absurd c_19 (by decide)
                · exact absurd c_15 (by decide)
            · exact absurd c_11 (by decide)
        · exact absurd c_7 (by decide)
    · exact absurd c_3 (by decide)
set_option maxHeartbeats 4000000 in
set_option maxRecDepth 100000 in
theorem c_F_M_isDigit (l : Launch) (D : va_G) (cI cJ cZ cP cS : ClassId) (po : zPool) (m0 mrf mki mpa mta mla msl mco mhe mso msi msh mce mca mwo mnu mte mwa mke mma mth mtr : Nat) (npu nte nat_ nde nto nse nhu nga nsd nfa nba npl nen nnu nwr nra nik : Int32) (gce : Nat → Int64) (hy0 : 0 ≤ npu.toInt) (hy1 : npu.toInt ≤ 8) (hy2 : 4 ≤ nte.toInt) (hy3 : nte.toInt ≤ 40) (hy4 : 0 ≤ nat_.toInt) (hy5 : nat_.toInt ≤ 40) (hy6 : 0 ≤ nde.toInt) (hy7 : nde.toInt ≤ 24) (hy8 : 0 ≤ nhu.toInt) (hy9 : nhu.toInt ≤ 9) (hy10 : 0 ≤ nra.toInt) (hy11 : nra.toInt ≤ 2000) (hy12 : 0 ≤ nik.toInt) (hy13 : nik.toInt ≤ 1) (hy14 : 0 ≤ nba.toInt) (hy15 : nba.toInt ≤ 1120) (hy16 : 0 ≤ npl.toInt) (hy17 : npl.toInt ≤ 160) (hy18 : 0 ≤ nen.toInt) (hy19 : nen.toInt ≤ 160) (hy20 : npl.toInt ≤ nen.toInt) : Met l yX8_isDigit wsX8_isDigit ({ frames := 0, cells := 0, slots := 0, locals := 0 }) (va_Pc [.ref m0] (zR D (zKT cI cJ cZ cP cS) po [(zMO m0 npu nte nat_ nde nto nse nhu nga nsd nfa mrf mki mpa mta mla msl mco mhe mso msi msh mce mca mwo mnu mte nba npl nen nnu nwr mwa mke mma mth mtr nra nik), (mce, .inl (cJ, 1280, .inr (.inl gce)))])) (vp_Si (fun r => 0 ≤ r.toInt ∧ r.toInt ≤ 1 ∧ ((r.toInt = 1 → zDg (zMF gce nba.toInt) nen.toInt npl.toInt) ∧ (r.toInt = 0 → ¬ zDg (zMF gce nba.toInt) nen.toInt npl.toInt)))) 0 0 (fun _ => False) := by
  refine Met.ofW (cc := cX8_isDigit) (maxL := 1) (ret := (some .boolean)) (by decide) rfl ?_
  intro p e s m args below meth c s₁ B hml hv
  obtain ⟨rfl, hP, hK, hN, hZ⟩ := hv
  have hx := B.exec
  have hb := B.bytes
  have hr := B.returns
  have hts := atoms_spec (ws := wsX8_isDigit) B.pre
  have hown : s.vm.findClass RX8 = some m.cls := findClass_of_methodNamed B.named
  have hlocks := B.notSynchronized
  have hl := lv_entry ([.ref m0]) (n := 1) (Nat.le_of_ble_eq_true rfl)
  rw [lg_entry_eq]
  generalize (lg_sl ([.ref m0]) ++ List.replicate (1 - (lg_sl ([.ref m0])).length) Slot.unset).toArray = ls at hl ⊢
  replace hl : lv_has ls 1 [(0, .ref m0)] := hl
  refine lv_aload_n hx hb dX8_isDigit_0 rfl (lv_at hl 0 rfl) ?_
  refine va_get (D := D) (ci := 8) (v := .int npl) (C := RX8) (T := TX8) (N := 38) hx hb hts hi_X8_isDigit_8 hown hK hP 0 rfl rfl 27 (by decide) (hts (.fieldLink RX8 152 "TheLiningsInItModel" "place" "I") (List.mem_of_getElem? (i := 1) rfl)) (fun _ h9 => h9) rfl dX8_isDigit_1 ?_
  refine lv_aload_n hx hb dX8_isDigit_4 rfl (lv_at hl 0 rfl) ?_
  refine va_get (D := D) (ci := 8) (v := .int nen) (C := RX8) (T := TX8) (N := 38) hx hb hts hi_X8_isDigit_8 hown hK hP 0 rfl rfl 28 (by decide) (hts (.fieldLink RX8 155 "TheLiningsInItModel" "end" "I") (List.mem_of_getElem? (i := 2) rfl)) (fun _ h9 => h9) rfl dX8_isDigit_5 ?_
  refine lv_icmp_ge (tgt := 55) hx hb dX8_isDigit_8 (by decide) (fun c_1 => ?_) (fun c_1 => ?_)
  · have fc_1 : nen.toInt ≤ npl.toInt := zf_le c_1 rfl rfl
    refine lv_iconst (v := 0) hx hb dX8_isDigit_55 (by decide) ?_
    exact W.zret (v := 0) hx hb hr (by decide) (fun t ht hW => ⟨0, rfl, ⟨by decide, by decide, (show ((0 : Int32).toInt = 1 → zDg (zMF gce nba.toInt) nen.toInt npl.toInt) ∧ ((0 : Int32).toInt = 0 → ¬ zDg (zMF gce nba.toInt) nen.toInt npl.toInt) from by (have k9 : (0 : Int32).toInt = 0 := (by decide); rw [zDg_MF (by omega)]; first | omega | exact ⟨fun _ => by omega, fun h => absurd h (by decide)⟩ | exact ⟨fun h => absurd h (by decide), fun _ => by omega⟩))⟩, ht⟩) (fun q hq => by cases hq) dX8_isDigit_56
  · have fc_1 : npl.toInt < nen.toInt := zf_nle c_1 rfl rfl
    refine lv_aload_n hx hb dX8_isDigit_11 rfl (lv_at hl 0 rfl) ?_
    refine va_get (D := D) (ci := 8) (v := .ref mce) (C := RX8) (T := TX8) (N := 38) hx hb hts hi_X8_isDigit_8 hown hK hP 0 rfl rfl 21 (by decide) (hts (.fieldLink RX8 59 "TheLiningsInItModel" "cells" "[J") (List.mem_of_getElem? (i := 3) rfl)) (fun _ h9 => h9) rfl dX8_isDigit_12 ?_
    refine lv_aload_n hx hb dX8_isDigit_15 rfl (lv_at hl 0 rfl) ?_
    refine va_get (D := D) (ci := 8) (v := .int nba) (C := RX8) (T := TX8) (N := 38) hx hb hts hi_X8_isDigit_8 hown hK hP 0 rfl rfl 26 (by decide) (hts (.fieldLink RX8 158 "TheLiningsInItModel" "base" "I") (List.mem_of_getElem? (i := 4) rfl)) (fun _ h9 => h9) rfl dX8_isDigit_16 ?_
    refine lv_aload_n hx hb dX8_isDigit_19 rfl (lv_at hl 0 rfl) ?_
    refine va_get (D := D) (ci := 8) (v := .int npl) (C := RX8) (T := TX8) (N := 38) hx hb hts hi_X8_isDigit_8 hown hK hP 0 rfl rfl 27 (by decide) (hts (.fieldLink RX8 152 "TheLiningsInItModel" "place" "I") (List.mem_of_getElem? (i := 1) rfl)) (fun _ h9 => h9) rfl dX8_isDigit_20 ?_
    refine lv_iadd hx hb dX8_isDigit_23 ?_
    refine lv_topi (fun x_2 ex_2 => ?_)
    have qx_2 : x_2.toInt = nba.toInt + npl.toInt := by rw [ex_2]; exact zf_add rfl rfl (by omega) (by omega)
    refine va_lald hx hb hK hP 1 1 rfl rfl (zf_in (by omega) (by omega)) dX8_isDigit_24 ?_
    refine lv_topl (fun x_3 ex_3 => ?_)
    refine lv_l2i hx hb dX8_isDigit_25 rfl ?_
    refine lv_topi (fun x_4 ex_4 => ?_)
    have hcx_4 : x_4 = zChX gce (nba.toInt + npl.toInt).toNat := by rw [ex_4, ex_3]; unfold zChX; congr 2; (show x_2.toInt.toNat = _; omega)
    have hdx_4 : x_4.toInt = (zChX gce (nba.toInt + npl.toInt).toNat).toInt := by rw [hcx_4]
    refine lv_bipush (v := 48) hx hb dX8_isDigit_26 (by decide) ?_
    refine lv_icmp_lt (tgt := 55) hx hb dX8_isDigit_28 (by decide) (fun c_5 => ?_) (fun c_5 => ?_)
    · have fc_5 : x_4.toInt < 48 := zf_lt c_5 rfl (by decide)
      refine lv_iconst (v := 0) hx hb dX8_isDigit_55 (by decide) ?_
      exact W.zret (v := 0) hx hb hr (by decide) (fun t ht hW => ⟨0, rfl, ⟨by decide, by decide, (show ((0 : Int32).toInt = 1 → zDg (zMF gce nba.toInt) nen.toInt npl.toInt) ∧ ((0 : Int32).toInt = 0 → ¬ zDg (zMF gce nba.toInt) nen.toInt npl.toInt) from by (have k9 : (0 : Int32).toInt = 0 := (by decide); rw [zDg_MF (by omega)]; first | omega | exact ⟨fun _ => by omega, fun h => absurd h (by decide)⟩ | exact ⟨fun h => absurd h (by decide), fun _ => by omega⟩))⟩, ht⟩) (fun q hq => by cases hq) dX8_isDigit_56
    · have fc_5 : 48 ≤ x_4.toInt := zf_nlt c_5 rfl (by decide)
      refine lv_aload_n hx hb dX8_isDigit_31 rfl (lv_at hl 0 rfl) ?_
      refine va_get (D := D) (ci := 8) (v := .ref mce) (C := RX8) (T := TX8) (N := 38) hx hb hts hi_X8_isDigit_8 hown hK hP 0 rfl rfl 21 (by decide) (hts (.fieldLink RX8 59 "TheLiningsInItModel" "cells" "[J") (List.mem_of_getElem? (i := 3) rfl)) (fun _ h9 => h9) rfl dX8_isDigit_32 ?_
      refine lv_aload_n hx hb dX8_isDigit_35 rfl (lv_at hl 0 rfl) ?_
      refine va_get (D := D) (ci := 8) (v := .int nba) (C := RX8) (T := TX8) (N := 38) hx hb hts hi_X8_isDigit_8 hown hK hP 0 rfl rfl 26 (by decide) (hts (.fieldLink RX8 158 "TheLiningsInItModel" "base" "I") (List.mem_of_getElem? (i := 4) rfl)) (fun _ h9 => h9) rfl dX8_isDigit_36 ?_
      refine lv_aload_n hx hb dX8_isDigit_39 rfl (lv_at hl 0 rfl) ?_
      refine va_get (D := D) (ci := 8) (v := .int npl) (C := RX8) (T := TX8) (N := 38) hx hb hts hi_X8_isDigit_8 hown hK hP 0 rfl rfl 27 (by decide) (hts (.fieldLink RX8 152 "TheLiningsInItModel" "place" "I") (List.mem_of_getElem? (i := 1) rfl)) (fun _ h9 => h9) rfl dX8_isDigit_40 ?_
      refine lv_iadd hx hb dX8_isDigit_43 ?_
      refine lv_topi (fun y_6 ey_6 => ?_)
      obtain rfl : x_2 = y_6 := ex_2.trans ey_6.symm
      refine va_lald hx hb hK hP 1 1 rfl rfl (zf_in (by omega) (by omega)) dX8_isDigit_44 ?_
      refine lv_topl (fun x_7 ex_7 => ?_)
      refine lv_l2i hx hb dX8_isDigit_45 rfl ?_
      refine lv_topi (fun x_8 ex_8 => ?_)
      have hcx_8 : x_8 = zChX gce (nba.toInt + npl.toInt).toNat := by rw [ex_8, ex_7]; unfold zChX; congr 2; (show x_2.toInt.toNat = _; omega)
      have hdx_8 : x_8.toInt = (zChX gce (nba.toInt + npl.toInt).toNat).toInt := by rw [hcx_8]
      refine lv_bipush (v := 57) hx hb dX8_isDigit_46 (by decide) ?_
      refine lv_icmp_gt (tgt := 55) hx hb dX8_isDigit_48 (by decide) (fun c_9 => ?_) (fun c_9 => ?_)
      · have fc_9 : 57 < x_8.toInt := zf_lt c_9 (by decide) rfl
        refine lv_iconst (v := 0) hx hb dX8_isDigit_55 (by decide) ?_
        exact W.zret (v := 0) hx hb hr (by decide) (fun t ht hW => ⟨0, rfl, ⟨by decide, by decide, (show ((0 : Int32).toInt = 1 → zDg (zMF gce nba.toInt) nen.toInt npl.toInt) ∧ ((0 : Int32).toInt = 0 → ¬ zDg (zMF gce nba.toInt) nen.toInt npl.toInt) from by (have k9 : (0 : Int32).toInt = 0 := (by decide); rw [zDg_MF (by omega)]; first | omega | exact ⟨fun _ => by omega, fun h => absurd h (by decide)⟩ | exact ⟨fun h => absurd h (by decide), fun _ => by omega⟩))⟩, ht⟩) (fun q hq => by cases hq) dX8_isDigit_56
      · have fc_9 : x_8.toInt ≤ 57 := zf_nlt c_9 (by decide) rfl
        refine lv_iconst (v := 1) hx hb dX8_isDigit_51 (by decide) ?_
        refine lv_goto (tgt := 56) hx hb dX8_isDigit_52 (by decide) ?_
        exact W.zret (v := 1) hx hb hr (by decide) (fun t ht hW => ⟨1, rfl, ⟨by decide, by decide, (show ((1 : Int32).toInt = 1 → zDg (zMF gce nba.toInt) nen.toInt npl.toInt) ∧ ((1 : Int32).toInt = 0 → ¬ zDg (zMF gce nba.toInt) nen.toInt npl.toInt) from by (have k9 : (1 : Int32).toInt = 1 := (by decide); rw [zDg_MF (by omega)]; first | omega | exact ⟨fun _ => by omega, fun h => absurd h (by decide)⟩ | exact ⟨fun h => absurd h (by decide), fun _ => by omega⟩))⟩, ht⟩) (fun q hq => by cases hq) dX8_isDigit_56
set_option maxHeartbeats 4000000 in
set_option maxRecDepth 100000 in
theorem c_F_M_reads (l : Launch) (D : va_G) (cI cJ cZ cP cS : ClassId) (po : zPool) (m0 mrf mki mpa mta mla msl mco mhe mso msi msh mce mca mwo mnu mte mwa mke mma mth mtr : Nat) (npu nte nat_ nde nto nse nhu nga nsd nfa nba npl nen nnu nwr nra nik : Int32) (gce : Nat → Int64) (hy0 : 0 ≤ npu.toInt) (hy1 : npu.toInt ≤ 8) (hy2 : 4 ≤ nte.toInt) (hy3 : nte.toInt ≤ 40) (hy4 : 0 ≤ nat_.toInt) (hy5 : nat_.toInt ≤ 40) (hy6 : 0 ≤ nde.toInt) (hy7 : nde.toInt ≤ 24) (hy8 : 0 ≤ nhu.toInt) (hy9 : nhu.toInt ≤ 9) (hy10 : 0 ≤ nra.toInt) (hy11 : nra.toInt ≤ 2000) (hy12 : 0 ≤ nik.toInt) (hy13 : nik.toInt ≤ 1) (hy14 : 0 ≤ nba.toInt) (hy15 : nba.toInt ≤ 1120) (hy16 : 0 ≤ npl.toInt) (hy17 : npl.toInt ≤ 160) (hy18 : 0 ≤ nen.toInt) (hy19 : nen.toInt ≤ 160) (hy20 : npl.toInt ≤ nen.toInt) (hpz : Nat) : Met l yX8_reads wsX8_reads ({ frames := 1, cells := 0, slots := 0, locals := 21 }) (va_Pc [.ref m0] (zW D (zKT cI cJ cZ cP cS) po [(zMO m0 npu nte nat_ nde nto nse nhu nga nsd nfa mrf mki mpa mta mla msl mco mhe mso msi msh mce mca mwo mnu mte nba npl nen nnu nwr mwa mke mma mth mtr nra nik), (mce, .inl (cJ, 1280, .inr (.inl gce)))] hpz)) (va_Qi (fun (r : Int32) (u : (Int32) × (Int32) × (Int32)) => (0 ≤ u.1.toInt ∧ u.1.toInt ≤ 160) ∧ (npl.toInt ≤ u.1.toInt ∧ u.1.toInt ≤ nen.toInt) ∧ ((r.toInt = 1 → 0 ≤ u.2.1.toInt ∧ u.2.1.toInt ≤ 999)) ∧ ((r.toInt = 1 → u.1.toInt = zNe (zMF gce nba.toInt) nen.toInt npl.toInt ∧ u.2.1.toInt = zNv (zMF gce nba.toInt) npl.toInt u.1.toInt ∧ u.1.toInt ≠ npl.toInt) ∧ (r.toInt = 0 → zNe (zMF gce nba.toInt) nen.toInt npl.toInt = npl.toInt ∧ u.2.2.toInt = npl.toInt)) ∧ (0 ≤ r.toInt ∧ r.toInt ≤ 1)) (zB D [(zMO m0 npu nte nat_ nde nto nse nhu nga nsd nfa mrf mki mpa mta mla msl mco mhe mso msi msh mce mca mwo mnu mte nba npl nen nnu nwr mwa mke mma mth mtr nra nik), (mce, .inl (cJ, 1280, .inr (.inl gce)))] hpz (fun (u : (Int32) × (Int32) × (Int32)) => [(zMO m0 npu nte nat_ nde nto nse nhu nga nsd nfa mrf mki mpa mta mla msl mco mhe mso msi msh mce mca mwo mnu mte nba u.1 nen u.2.1 u.2.2 mwa mke mma mth mtr nra nik), (mce, .inl (cJ, 1280, .inr (.inl gce)))])) (va_A [(zMO m0 npu nte nat_ nde nto nse nhu nga nsd nfa mrf mki mpa mta mla msl mco mhe mso msi msh mce mca mwo mnu mte nba npl nen nnu nwr mwa mke mma mth mtr nra nik), (mce, .inl (cJ, 1280, .inr (.inl gce)))] hpz)) 0 0 (va_A [(zMO m0 npu nte nat_ nde nto nse nhu nga nsd nfa mrf mki mpa mta mla msl mco mhe mso msi msh mce mca mwo mnu mte nba npl nen nnu nwr mwa mke mma mth mtr nra nik), (mce, .inl (cJ, 1280, .inr (.inl gce)))] hpz) := by
  refine Met.ofW (cc := cX8_reads) (maxL := 2) (ret := (some .boolean)) (by decide) rfl ?_
  intro p e s m args below meth c s₁ B hml hv
  obtain ⟨rfl, hsz, hP, hK, hD0, hN, hZ⟩ := hv
  have hx := B.exec
  have hb := B.bytes
  have hr := B.returns
  have hts := atoms_spec (ws := wsX8_reads) B.pre
  have hown : s.vm.findClass RX8 = some m.cls := findClass_of_methodNamed B.named
  have hlocks := B.notSynchronized
  subst hsz
  have hD := hD0.self (sz := s.heap.size)
  have hA := zA_of hD
  have hl := lv_entry ([.ref m0]) (n := 2) (Nat.le_of_ble_eq_true rfl)
  rw [lg_entry_eq]
  generalize (lg_sl ([.ref m0]) ++ List.replicate (2 - (lg_sl ([.ref m0])).length) Slot.unset).toArray = ls at hl ⊢
  replace hl : lv_has ls 2 [(0, .ref m0)] := hl
  refine zw_begin hP hD (fun H locs hP1 hS => ?_)
  clear hP
  have hP := hP1
  clear hP1
  refine lv_aload_n hx hb dX8_reads_0 rfl (lv_at hl 0 rfl) ?_
  refine lv_iconst (v := 0) hx hb dX8_reads_1 (by decide) ?_
  refine va_put (D := D) (ci := 8) (v := .int 0) (ty := .int) (C := RX8) (T := TX8) (N := 38) hx hb hts hi_X8_reads_8 tyX8 tyX8_ok nmX8 hown hK hP hD hS 0 rfl rfl 29 (by decide) (hts (.fieldLink RX8 161 "TheLiningsInItModel" "number" "I") (List.mem_of_getElem? (i := 1) rfl)) (fun _ h9 => h9) rfl (tyX8_ok 29 (Nat.le_of_ble_eq_true rfl)) rfl rfl (Nat.le_of_ble_eq_true rfl) dX8_reads_2 (fun H locs hP hD hS => ?_)
  have h9R := zRe (ws' := [(zMO m0 npu nte nat_ nde nto nse nhu nga nsd nfa mrf mki mpa mta mla msl mco mhe mso msi msh mce mca mwo mnu mte nba npl nen 0 nwr mwa mke mma mth mtr nra nik), (mce, .inl (cJ, 1280, .inr (.inl gce)))]) hP hD rfl
  clear hP hD
  obtain ⟨hP, hD⟩ := h9R
  refine lv_aload_n hx hb dX8_reads_5 rfl (lv_at hl 0 rfl) ?_
  refine zc_V (As := []) (rest := []) ⟨hx, hb, hml, hown, hts⟩ (c_F_M_isDigit l D cI cJ cZ cP cS po m0 mrf mki mpa mta mla msl mco mhe mso msi msh mce mca mwo mnu mte mwa mke mma mth mtr (npu) (nte) (nat_) (nde) (nto) (nse) (nhu) (nga) (nsd) (nfa) (nba) (npl) (nen) (0) (nwr) (nra) (nik) gce hy0 hy1 hy2 hy3 hy4 hy5 hy6 hy7 hy8 hy9 hy10 hy11 hy12 hy13 hy14 hy15 hy16 hy17 hy18 hy19 (by omega)) (cwV 0 hts gX8_reads_X8_isDigit rfl rfl rfl ⟨rfl, dh_X8_isDigit⟩ ⟨Nat.le_of_ble_eq_true rfl, Nat.le_of_ble_eq_true rfl⟩) hK hN (hZ.kept hS) hP (hP.sub [0, 1] rfl) (va_recv (q := (RX8, TX8, 38)) hK hP (ci := 8) (q0 := 0) rfl rfl) rfl hl.1 rfl (Nat.le_of_ble_eq_true rfl) dX8_reads_6 ⟨Nat.le_of_ble_eq_true rfl, Nat.le_of_ble_eq_true rfl⟩ (fun r_1 hr_1 => ?_)
  obtain ⟨g_2, g_3, hsr_1_0⟩ := hr_1
  have dgr_1 := hsr_1_0
  rw [zDg_MF (by omega)] at dgr_1
  refine lv_if_ne (tgt := 21) hx hb dX8_reads_9 (by decide) (fun c_4 => ?_) (fun c_4 => ?_)
  · have fc_4 : r_1.toInt ≠ 0 := zf_ne c_4 rfl (by decide)
    refine lv_iconst (v := 0) hx hb dX8_reads_21 (by decide) ?_
    refine lv_istore_n (lv' := [(1, .int 0), (0, .ref m0)]) hx hb dX8_reads_22 rfl hl (by decide) rfl (fun ls hl => ?_)
    refine lv_iload_n hx hb dX8_reads_23 rfl (lv_at hl 0 rfl) ?_
    refine lv_iconst (v := 3) hx hb dX8_reads_24 (by decide) ?_
    refine lv_icmp_ge (tgt := 81) hx hb dX8_reads_25 (by decide) (fun c_5 => ?_) (fun c_5 => ?_)
    · exact absurd c_5 (by decide)
    · refine lv_aload_n hx hb dX8_reads_28 rfl (lv_at hl 1 rfl) ?_
      refine zc_V (As := []) (rest := []) ⟨hx, hb, hml, hown, hts⟩ (c_F_M_isDigit l D cI cJ cZ cP cS po m0 mrf mki mpa mta mla msl mco mhe mso msi msh mce mca mwo mnu mte mwa mke mma mth mtr (npu) (nte) (nat_) (nde) (nto) (nse) (nhu) (nga) (nsd) (nfa) (nba) (npl) (nen) (0) (nwr) (nra) (nik) gce hy0 hy1 hy2 hy3 hy4 hy5 hy6 hy7 hy8 hy9 hy10 hy11 hy12 hy13 hy14 hy15 hy16 hy17 hy18 hy19 (by omega)) (cwV 0 hts gX8_reads_X8_isDigit rfl rfl rfl ⟨rfl, dh_X8_isDigit⟩ ⟨Nat.le_of_ble_eq_true rfl, Nat.le_of_ble_eq_true rfl⟩) hK hN (hZ.kept hS) hP (hP.sub [0, 1] rfl) (va_recv (q := (RX8, TX8, 38)) hK hP (ci := 8) (q0 := 0) rfl rfl) rfl hl.1 rfl (Nat.le_of_ble_eq_true rfl) dX8_reads_29 ⟨Nat.le_of_ble_eq_true rfl, Nat.le_of_ble_eq_true rfl⟩ (fun r_6 hr_6 => ?_)
      obtain ⟨g_7, g_8, hsr_6_0⟩ := hr_6
      have dgr_6 := hsr_6_0
      rw [zDg_MF (by omega)] at dgr_6
      refine lv_if_eq (tgt := 81) hx hb dX8_reads_32 (by decide) (fun c_9 => ?_) (fun c_9 => ?_)
      · have fc_9 : r_6.toInt = 0 := zf_eq c_9 rfl (by decide)
        refine lv_iconst (v := 1) hx hb dX8_reads_81 (by decide) ?_
        exact W.zret (v := 1) hx hb hr (by decide) (fun t ht hW => ⟨⟨1, (npl, 0, nwr), rfl, ⟨(show 0 ≤ npl.toInt ∧ npl.toInt ≤ 160 from ⟨hy16, hy17⟩), (show npl.toInt ≤ npl.toInt ∧ npl.toInt ≤ nen.toInt from by exact ⟨by omega, by omega⟩), (show ((1 : Int32).toInt = 1 → 0 ≤ (0 : Int32).toInt ∧ (0 : Int32).toInt ≤ 999) from by first | omega | exact fun h => absurd h (by decide) | exact fun _ => ⟨by decide, by decide⟩), (show ((1 : Int32).toInt = 1 → npl.toInt = zNe (zMF gce nba.toInt) nen.toInt npl.toInt ∧ (0 : Int32).toInt = zNv (zMF gce nba.toInt) npl.toInt npl.toInt ∧ npl.toInt ≠ npl.toInt) ∧ ((1 : Int32).toInt = 0 → zNe (zMF gce nba.toInt) nen.toInt npl.toInt = npl.toInt ∧ nwr.toInt = npl.toInt) from by (exfalso; exact (hsr_6_0.2 (by omega)) (hsr_1_0.1 (by omega)))), ⟨by decide, by decide⟩⟩, zRet ht hP hD [0, 1] (by decide) rfl⟩, hS.F ht⟩) hS.2.2 dX8_reads_82
      · have fc_9 : r_6.toInt ≠ 0 := zf_ne c_9 rfl (by decide)
        refine lv_aload_n hx hb dX8_reads_35 rfl (lv_at hl 1 rfl) ?_
        refine lv_bipush (v := 10) hx hb dX8_reads_36 (by decide) ?_
        refine lv_aload_n hx hb dX8_reads_38 rfl (lv_at hl 1 rfl) ?_
        refine va_get (D := D) (ci := 8) (v := .int 0) (C := RX8) (T := TX8) (N := 38) hx hb hts hi_X8_reads_8 hown hK hP 0 rfl rfl 29 (by decide) (hts (.fieldLink RX8 161 "TheLiningsInItModel" "number" "I") (List.mem_of_getElem? (i := 1) rfl)) (fun _ h9 => h9) rfl dX8_reads_39 ?_
        refine lv_imul hx hb dX8_reads_42 ?_
        refine lv_topi (fun y_10 ey_10 => ?_)
        obtain rfl : y_10 = 0 := ey_10.trans (by decide)
        refine lv_aload_n hx hb dX8_reads_43 rfl (lv_at hl 1 rfl) ?_
        refine va_get (D := D) (ci := 8) (v := .ref mce) (C := RX8) (T := TX8) (N := 38) hx hb hts hi_X8_reads_8 hown hK hP 0 rfl rfl 21 (by decide) (hts (.fieldLink RX8 59 "TheLiningsInItModel" "cells" "[J") (List.mem_of_getElem? (i := 3) rfl)) (fun _ h9 => h9) rfl dX8_reads_44 ?_
        refine lv_aload_n hx hb dX8_reads_47 rfl (lv_at hl 1 rfl) ?_
        refine va_get (D := D) (ci := 8) (v := .int nba) (C := RX8) (T := TX8) (N := 38) hx hb hts hi_X8_reads_8 hown hK hP 0 rfl rfl 26 (by decide) (hts (.fieldLink RX8 158 "TheLiningsInItModel" "base" "I") (List.mem_of_getElem? (i := 4) rfl)) (fun _ h9 => h9) rfl dX8_reads_48 ?_
        refine lv_aload_n hx hb dX8_reads_51 rfl (lv_at hl 1 rfl) ?_
        refine va_get (D := D) (ci := 8) (v := .int npl) (C := RX8) (T := TX8) (N := 38) hx hb hts hi_X8_reads_8 hown hK hP 0 rfl rfl 27 (by decide) (hts (.fieldLink RX8 152 "TheLiningsInItModel" "place" "I") (List.mem_of_getElem? (i := 2) rfl)) (fun _ h9 => h9) rfl dX8_reads_52 ?_
        refine lv_iadd hx hb dX8_reads_55 ?_
        refine lv_topi (fun x_11 ex_11 => ?_)
        have qx_11 : x_11.toInt = nba.toInt + npl.toInt := by rw [ex_11]; exact zf_add rfl rfl (by omega) (by omega)
        refine va_lald hx hb hK hP 1 1 rfl rfl (zf_in (by omega) (by omega)) dX8_reads_56 ?_
        refine lv_topl (fun x_12 ex_12 => ?_)
        refine lv_l2i hx hb dX8_reads_57 rfl ?_
        refine lv_topi (fun x_13 ex_13 => ?_)
        have hcx_13 : x_13 = zChX gce (nba.toInt + npl.toInt).toNat := by rw [ex_13, ex_12]; unfold zChX; congr 2; (show x_11.toInt.toNat = _; omega)
        have hdx_13 : x_13.toInt = (zChX gce (nba.toInt + npl.toInt).toNat).toInt := by rw [hcx_13]
        refine lv_iadd hx hb dX8_reads_58 ?_
        refine lv_topi (fun x_14 ex_14 => ?_)
        have qx_14 : x_14.toInt = 0 + x_13.toInt := by rw [ex_14]; exact zf_add (by decide) rfl (by omega) (by omega)
        refine lv_bipush (v := 48) hx hb dX8_reads_59 (by decide) ?_
        refine lv_isub hx hb dX8_reads_61 ?_
        refine lv_topi (fun x_15 ex_15 => ?_)
        have qx_15 : x_15.toInt = x_14.toInt - 48 := by rw [ex_15]; exact zf_sub rfl (by decide) (by omega) (by omega)
        refine va_put (D := D) (ci := 8) (v := .int x_15) (ty := .int) (C := RX8) (T := TX8) (N := 38) hx hb hts hi_X8_reads_8 tyX8 tyX8_ok nmX8 hown hK hP hD hS 0 rfl rfl 29 (by decide) (hts (.fieldLink RX8 161 "TheLiningsInItModel" "number" "I") (List.mem_of_getElem? (i := 1) rfl)) (fun _ h9 => h9) rfl (tyX8_ok 29 (Nat.le_of_ble_eq_true rfl)) rfl rfl (Nat.le_of_ble_eq_true rfl) dX8_reads_62 (fun H locs hP hD hS => ?_)
        have h9R := zRe (ws' := [(zMO m0 npu nte nat_ nde nto nse nhu nga nsd nfa mrf mki mpa mta mla msl mco mhe mso msi msh mce mca mwo mnu mte nba npl nen x_15 nwr mwa mke mma mth mtr nra nik), (mce, .inl (cJ, 1280, .inr (.inl gce)))]) hP hD rfl
        clear hP hD
        obtain ⟨hP, hD⟩ := h9R
        refine lv_aload_n hx hb dX8_reads_65 rfl (lv_at hl 1 rfl) ?_
        refine lv_dup hx hb dX8_reads_66 rfl ?_
        refine va_get (D := D) (ci := 8) (v := .int npl) (C := RX8) (T := TX8) (N := 38) hx hb hts hi_X8_reads_8 hown hK hP 0 rfl rfl 27 (by decide) (hts (.fieldLink RX8 152 "TheLiningsInItModel" "place" "I") (List.mem_of_getElem? (i := 2) rfl)) (fun _ h9 => h9) rfl dX8_reads_67 ?_
        refine lv_iconst (v := 1) hx hb dX8_reads_70 (by decide) ?_
        refine lv_iadd hx hb dX8_reads_71 ?_
        refine lv_topi (fun x_16 ex_16 => ?_)
        have qx_16 : x_16.toInt = npl.toInt + 1 := by rw [ex_16]; exact zf_add rfl (by decide) (by omega) (by omega)
        refine va_put (D := D) (ci := 8) (v := .int x_16) (ty := .int) (C := RX8) (T := TX8) (N := 38) hx hb hts hi_X8_reads_8 tyX8 tyX8_ok nmX8 hown hK hP hD hS 0 rfl rfl 27 (by decide) (hts (.fieldLink RX8 152 "TheLiningsInItModel" "place" "I") (List.mem_of_getElem? (i := 2) rfl)) (fun _ h9 => h9) rfl (tyX8_ok 27 (Nat.le_of_ble_eq_true rfl)) rfl rfl (Nat.le_of_ble_eq_true rfl) dX8_reads_72 (fun H locs hP hD hS => ?_)
        have h9R := zRe (ws' := [(zMO m0 npu nte nat_ nde nto nse nhu nga nsd nfa mrf mki mpa mta mla msl mco mhe mso msi msh mce mca mwo mnu mte nba x_16 nen x_15 nwr mwa mke mma mth mtr nra nik), (mce, .inl (cJ, 1280, .inr (.inl gce)))]) hP hD rfl
        clear hP hD
        obtain ⟨hP, hD⟩ := h9R
        refine lv_iinc (v := 1) (lv' := [(1, .int 1), (0, .ref m0)]) hx hb dX8_reads_75 hl (k := 0) rfl (by decide) (by decide) rfl (fun ls hl => ?_)
        refine lv_goto (tgt := 23) hx hb dX8_reads_78 (by decide) ?_
        refine lv_iload_n hx hb dX8_reads_23 rfl (lv_at hl 0 rfl) ?_
        refine lv_iconst (v := 3) hx hb dX8_reads_24 (by decide) ?_
        refine lv_icmp_ge (tgt := 81) hx hb dX8_reads_25 (by decide) (fun c_17 => ?_) (fun c_17 => ?_)
        · exact absurd c_17 (by decide)
        · refine lv_aload_n hx hb dX8_reads_28 rfl (lv_at hl 1 rfl) ?_
          refine zc_V (As := []) (rest := []) ⟨hx, hb, hml, hown, hts⟩ (c_F_M_isDigit l D cI cJ cZ cP cS po m0 mrf mki mpa mta mla msl mco mhe mso msi msh mce mca mwo mnu mte mwa mke mma mth mtr (npu) (nte) (nat_) (nde) (nto) (nse) (nhu) (nga) (nsd) (nfa) (nba) (x_16) (nen) (x_15) (nwr) (nra) (nik) gce hy0 hy1 hy2 hy3 hy4 hy5 hy6 hy7 hy8 hy9 hy10 hy11 hy12 hy13 hy14 hy15 (by omega) (by omega) hy18 hy19 (by omega)) (cwV 0 hts gX8_reads_X8_isDigit rfl rfl rfl ⟨rfl, dh_X8_isDigit⟩ ⟨Nat.le_of_ble_eq_true rfl, Nat.le_of_ble_eq_true rfl⟩) hK hN (hZ.kept hS) hP (hP.sub [0, 1] rfl) (va_recv (q := (RX8, TX8, 38)) hK hP (ci := 8) (q0 := 0) rfl rfl) rfl hl.1 rfl (Nat.le_of_ble_eq_true rfl) dX8_reads_29 ⟨Nat.le_of_ble_eq_true rfl, Nat.le_of_ble_eq_true rfl⟩ (fun r_18 hr_18 => ?_)
          obtain ⟨g_19, g_20, hsr_18_0⟩ := hr_18
          have dgr_18 := hsr_18_0
          rw [zDg_MF (by omega)] at dgr_18
          refine lv_if_eq (tgt := 81) hx hb dX8_reads_32 (by decide) (fun c_21 => ?_) (fun c_21 => ?_)
          · have fc_21 : r_18.toInt = 0 := zf_eq c_21 rfl (by decide)
            refine lv_iconst (v := 1) hx hb dX8_reads_81 (by decide) ?_
            exact W.zret (v := 1) hx hb hr (by decide) (fun t ht hW => ⟨⟨1, (x_16, x_15, nwr), rfl, ⟨(show 0 ≤ x_16.toInt ∧ x_16.toInt ≤ 160 from ⟨by omega, by omega⟩), (show npl.toInt ≤ x_16.toInt ∧ x_16.toInt ≤ nen.toInt from by exact ⟨by omega, by omega⟩), (show ((1 : Int32).toInt = 1 → 0 ≤ x_15.toInt ∧ x_15.toInt ≤ 999) from by first | omega | exact fun h => absurd h (by decide) | exact fun _ => ⟨by decide, by decide⟩), (show ((1 : Int32).toInt = 1 → x_16.toInt = zNe (zMF gce nba.toInt) nen.toInt npl.toInt ∧ x_15.toInt = zNv (zMF gce nba.toInt) npl.toInt x_16.toInt ∧ x_16.toInt ≠ npl.toInt) ∧ ((1 : Int32).toInt = 0 → zNe (zMF gce nba.toInt) nen.toInt npl.toInt = npl.toInt ∧ nwr.toInt = npl.toInt) from by (obtain ⟨z1, z2⟩ := zNum_1 (show zDg (zMF gce nba.toInt) nen.toInt (npl.toInt) from (by have z := hsr_6_0.1 (by omega); exact z)) (show ¬ zDg (zMF gce nba.toInt) nen.toInt (npl.toInt + 1) from (by have z := hsr_18_0.2 (by omega); rw [show (x_16 : Int32).toInt = npl.toInt + 1 from by omega] at z; exact z)); have v0 : zDv (zMF gce nba.toInt) (npl.toInt) = x_13.toInt - 48 := zDv_MF (by omega) (by rw [hcx_13]; first | done | exact congrArg (fun z : Int => (zChX gce z.toNat).toInt) (by omega)); refine ⟨fun _ => ⟨by omega, ?_, by omega⟩, fun h => absurd h (by decide)⟩; rw [show (x_16 : Int32).toInt = npl.toInt + 1 from by omega, z2]; omega)), ⟨by decide, by decide⟩⟩, zRet ht hP hD [0, 1] (by decide) rfl⟩, hS.F ht⟩) hS.2.2 dX8_reads_82
          · have fc_21 : r_18.toInt ≠ 0 := zf_ne c_21 rfl (by decide)
            refine lv_aload_n hx hb dX8_reads_35 rfl (lv_at hl 1 rfl) ?_
            refine lv_bipush (v := 10) hx hb dX8_reads_36 (by decide) ?_
            refine lv_aload_n hx hb dX8_reads_38 rfl (lv_at hl 1 rfl) ?_
            refine va_get (D := D) (ci := 8) (v := .int x_15) (C := RX8) (T := TX8) (N := 38) hx hb hts hi_X8_reads_8 hown hK hP 0 rfl rfl 29 (by decide) (hts (.fieldLink RX8 161 "TheLiningsInItModel" "number" "I") (List.mem_of_getElem? (i := 1) rfl)) (fun _ h9 => h9) rfl dX8_reads_39 ?_
            refine lv_imul hx hb dX8_reads_42 ?_
            refine lv_topi (fun x_22 ex_22 => ?_)
            have qx_22 : x_22.toInt = 10 * x_15.toInt := by rw [ex_22]; exact zf_mul (by decide) rfl (by omega) (by omega)
            refine lv_aload_n hx hb dX8_reads_43 rfl (lv_at hl 1 rfl) ?_
            refine va_get (D := D) (ci := 8) (v := .ref mce) (C := RX8) (T := TX8) (N := 38) hx hb hts hi_X8_reads_8 hown hK hP 0 rfl rfl 21 (by decide) (hts (.fieldLink RX8 59 "TheLiningsInItModel" "cells" "[J") (List.mem_of_getElem? (i := 3) rfl)) (fun _ h9 => h9) rfl dX8_reads_44 ?_
            refine lv_aload_n hx hb dX8_reads_47 rfl (lv_at hl 1 rfl) ?_
            refine va_get (D := D) (ci := 8) (v := .int nba) (C := RX8) (T := TX8) (N := 38) hx hb hts hi_X8_reads_8 hown hK hP 0 rfl rfl 26 (by decide) (hts (.fieldLink RX8 158 "TheLiningsInItModel" "base" "I") (List.mem_of_getElem? (i := 4) rfl)) (fun _ h9 => h9) rfl dX8_reads_48 ?_
            refine lv_aload_n hx hb dX8_reads_51 rfl (lv_at hl 1 rfl) ?_
            refine va_get (D := D) (ci := 8) (v := .int x_16) (C := RX8) (T := TX8) (N := 38) hx hb hts hi_X8_reads_8 hown hK hP 0 rfl rfl 27 (by decide) (hts (.fieldLink RX8 152 "TheLiningsInItModel" "place" "I") (List.mem_of_getElem? (i := 2) rfl)) (fun _ h9 => h9) rfl dX8_reads_52 ?_
            refine lv_iadd hx hb dX8_reads_55 ?_
            refine lv_topi (fun x_23 ex_23 => ?_)
            have qx_23 : x_23.toInt = nba.toInt + x_16.toInt := by rw [ex_23]; exact zf_add rfl rfl (by omega) (by omega)
            refine va_lald hx hb hK hP 1 1 rfl rfl (zf_in (by omega) (by omega)) dX8_reads_56 ?_
            refine lv_topl (fun x_24 ex_24 => ?_)
            refine lv_l2i hx hb dX8_reads_57 rfl ?_
            refine lv_topi (fun x_25 ex_25 => ?_)
            have hcx_25 : x_25 = zChX gce (nba.toInt + x_16.toInt).toNat := by rw [ex_25, ex_24]; unfold zChX; congr 2; (show x_23.toInt.toNat = _; omega)
            have hdx_25 : x_25.toInt = (zChX gce (nba.toInt + x_16.toInt).toNat).toInt := by rw [hcx_25]
            refine lv_iadd hx hb dX8_reads_58 ?_
            refine lv_topi (fun x_26 ex_26 => ?_)
            have qx_26 : x_26.toInt = x_22.toInt + x_25.toInt := by rw [ex_26]; exact zf_add rfl rfl (by omega) (by omega)
            refine lv_bipush (v := 48) hx hb dX8_reads_59 (by decide) ?_
            refine lv_isub hx hb dX8_reads_61 ?_
            refine lv_topi (fun x_27 ex_27 => ?_)
            have qx_27 : x_27.toInt = x_26.toInt - 48 := by rw [ex_27]; exact zf_sub rfl (by decide) (by omega) (by omega)
            refine va_put (D := D) (ci := 8) (v := .int x_27) (ty := .int) (C := RX8) (T := TX8) (N := 38) hx hb hts hi_X8_reads_8 tyX8 tyX8_ok nmX8 hown hK hP hD hS 0 rfl rfl 29 (by decide) (hts (.fieldLink RX8 161 "TheLiningsInItModel" "number" "I") (List.mem_of_getElem? (i := 1) rfl)) (fun _ h9 => h9) rfl (tyX8_ok 29 (Nat.le_of_ble_eq_true rfl)) rfl rfl (Nat.le_of_ble_eq_true rfl) dX8_reads_62 (fun H locs hP hD hS => ?_)
            have h9R := zRe (ws' := [(zMO m0 npu nte nat_ nde nto nse nhu nga nsd nfa mrf mki mpa mta mla msl mco mhe mso msi msh mce mca mwo mnu mte nba x_16 nen x_27 nwr mwa mke mma mth mtr nra nik), (mce, .inl (cJ, 1280, .inr (.inl gce)))]) hP hD rfl
            clear hP hD
            obtain ⟨hP, hD⟩ := h9R
            refine lv_aload_n hx hb dX8_reads_65 rfl (lv_at hl 1 rfl) ?_
            refine lv_dup hx hb dX8_reads_66 rfl ?_
            refine va_get (D := D) (ci := 8) (v := .int x_16) (C := RX8) (T := TX8) (N := 38) hx hb hts hi_X8_reads_8 hown hK hP 0 rfl rfl 27 (by decide) (hts (.fieldLink RX8 152 "TheLiningsInItModel" "place" "I") (List.mem_of_getElem? (i := 2) rfl)) (fun _ h9 => h9) rfl dX8_reads_67 ?_
            refine lv_iconst (v := 1) hx hb dX8_reads_70 (by decide) ?_
            refine lv_iadd hx hb dX8_reads_71 ?_
            refine lv_topi (fun x_28 ex_28 => ?_)
            have qx_28 : x_28.toInt = x_16.toInt + 1 := by rw [ex_28]; exact zf_add rfl (by decide) (by omega) (by omega)
            refine va_put (D := D) (ci := 8) (v := .int x_28) (ty := .int) (C := RX8) (T := TX8) (N := 38) hx hb hts hi_X8_reads_8 tyX8 tyX8_ok nmX8 hown hK hP hD hS 0 rfl rfl 27 (by decide) (hts (.fieldLink RX8 152 "TheLiningsInItModel" "place" "I") (List.mem_of_getElem? (i := 2) rfl)) (fun _ h9 => h9) rfl (tyX8_ok 27 (Nat.le_of_ble_eq_true rfl)) rfl rfl (Nat.le_of_ble_eq_true rfl) dX8_reads_72 (fun H locs hP hD hS => ?_)
            have h9R := zRe (ws' := [(zMO m0 npu nte nat_ nde nto nse nhu nga nsd nfa mrf mki mpa mta mla msl mco mhe mso msi msh mce mca mwo mnu mte nba x_28 nen x_27 nwr mwa mke mma mth mtr nra nik), (mce, .inl (cJ, 1280, .inr (.inl gce)))]) hP hD rfl
            clear hP hD
            obtain ⟨hP, hD⟩ := h9R
            refine lv_iinc (v := 2) (lv' := [(1, .int 2), (0, .ref m0)]) hx hb dX8_reads_75 hl (k := 0) rfl (by decide) (by decide) rfl (fun ls hl => ?_)
            refine lv_goto (tgt := 23) hx hb dX8_reads_78 (by decide) ?_
            refine lv_iload_n hx hb dX8_reads_23 rfl (lv_at hl 0 rfl) ?_
            refine lv_iconst (v := 3) hx hb dX8_reads_24 (by decide) ?_
            refine lv_icmp_ge (tgt := 81) hx hb dX8_reads_25 (by decide) (fun c_29 => ?_) (fun c_29 => ?_)
            · exact absurd c_29 (by decide)
            · refine lv_aload_n hx hb dX8_reads_28 rfl (lv_at hl 1 rfl) ?_
              refine zc_V (As := []) (rest := []) ⟨hx, hb, hml, hown, hts⟩ (c_F_M_isDigit l D cI cJ cZ cP cS po m0 mrf mki mpa mta mla msl mco mhe mso msi msh mce mca mwo mnu mte mwa mke mma mth mtr (npu) (nte) (nat_) (nde) (nto) (nse) (nhu) (nga) (nsd) (nfa) (nba) (x_28) (nen) (x_27) (nwr) (nra) (nik) gce hy0 hy1 hy2 hy3 hy4 hy5 hy6 hy7 hy8 hy9 hy10 hy11 hy12 hy13 hy14 hy15 (by omega) (by omega) hy18 hy19 (by omega)) (cwV 0 hts gX8_reads_X8_isDigit rfl rfl rfl ⟨rfl, dh_X8_isDigit⟩ ⟨Nat.le_of_ble_eq_true rfl, Nat.le_of_ble_eq_true rfl⟩) hK hN (hZ.kept hS) hP (hP.sub [0, 1] rfl) (va_recv (q := (RX8, TX8, 38)) hK hP (ci := 8) (q0 := 0) rfl rfl) rfl hl.1 rfl (Nat.le_of_ble_eq_true rfl) dX8_reads_29 ⟨Nat.le_of_ble_eq_true rfl, Nat.le_of_ble_eq_true rfl⟩ (fun r_30 hr_30 => ?_)
              obtain ⟨g_31, g_32, hsr_30_0⟩ := hr_30
              have dgr_30 := hsr_30_0
              rw [zDg_MF (by omega)] at dgr_30
              refine lv_if_eq (tgt := 81) hx hb dX8_reads_32 (by decide) (fun c_33 => ?_) (fun c_33 => ?_)
              · have fc_33 : r_30.toInt = 0 := zf_eq c_33 rfl (by decide)
                refine lv_iconst (v := 1) hx hb dX8_reads_81 (by decide) ?_
                exact W.zret (v := 1) hx hb hr (by decide) (fun t ht hW => ⟨⟨1, (x_28, x_27, nwr), rfl, ⟨(show 0 ≤ x_28.toInt ∧ x_28.toInt ≤ 160 from ⟨by omega, by omega⟩), (show npl.toInt ≤ x_28.toInt ∧ x_28.toInt ≤ nen.toInt from by exact ⟨by omega, by omega⟩), (show ((1 : Int32).toInt = 1 → 0 ≤ x_27.toInt ∧ x_27.toInt ≤ 999) from by first | omega | exact fun h => absurd h (by decide) | exact fun _ => ⟨by decide, by decide⟩), (show ((1 : Int32).toInt = 1 → x_28.toInt = zNe (zMF gce nba.toInt) nen.toInt npl.toInt ∧ x_27.toInt = zNv (zMF gce nba.toInt) npl.toInt x_28.toInt ∧ x_28.toInt ≠ npl.toInt) ∧ ((1 : Int32).toInt = 0 → zNe (zMF gce nba.toInt) nen.toInt npl.toInt = npl.toInt ∧ nwr.toInt = npl.toInt) from by (obtain ⟨z1, z2⟩ := zNum_2 (show zDg (zMF gce nba.toInt) nen.toInt (npl.toInt) from (by have z := hsr_6_0.1 (by omega); exact z)) (show zDg (zMF gce nba.toInt) nen.toInt (npl.toInt + 1) from (by have z := hsr_18_0.1 (by omega); rw [show (x_16 : Int32).toInt = npl.toInt + 1 from by omega] at z; exact z)) (show ¬ zDg (zMF gce nba.toInt) nen.toInt (npl.toInt + 2) from (by have z := hsr_30_0.2 (by omega); rw [show (x_28 : Int32).toInt = npl.toInt + 2 from by omega] at z; exact z)); have v0 : zDv (zMF gce nba.toInt) (npl.toInt) = x_13.toInt - 48 := zDv_MF (by omega) (by rw [hcx_13]; first | done | exact congrArg (fun z : Int => (zChX gce z.toNat).toInt) (by omega)); have v1 : zDv (zMF gce nba.toInt) (npl.toInt + 1) = x_25.toInt - 48 := zDv_MF (by omega) (by rw [hcx_25]; first | done | exact congrArg (fun z : Int => (zChX gce z.toNat).toInt) (by omega)); refine ⟨fun _ => ⟨by omega, ?_, by omega⟩, fun h => absurd h (by decide)⟩; rw [show (x_28 : Int32).toInt = npl.toInt + 2 from by omega, z2]; omega)), ⟨by decide, by decide⟩⟩, zRet ht hP hD [0, 1] (by decide) rfl⟩, hS.F ht⟩) hS.2.2 dX8_reads_82
              · have fc_33 : r_30.toInt ≠ 0 := zf_ne c_33 rfl (by decide)
                refine lv_aload_n hx hb dX8_reads_35 rfl (lv_at hl 1 rfl) ?_
                refine lv_bipush (v := 10) hx hb dX8_reads_36 (by decide) ?_
                refine lv_aload_n hx hb dX8_reads_38 rfl (lv_at hl 1 rfl) ?_
                refine va_get (D := D) (ci := 8) (v := .int x_27) (C := RX8) (T := TX8) (N := 38) hx hb hts hi_X8_reads_8 hown hK hP 0 rfl rfl 29 (by decide) (hts (.fieldLink RX8 161 "TheLiningsInItModel" "number" "I") (List.mem_of_getElem? (i := 1) rfl)) (fun _ h9 => h9) rfl dX8_reads_39 ?_
                refine lv_imul hx hb dX8_reads_42 ?_
                refine lv_topi (fun x_34 ex_34 => ?_)
                have qx_34 : x_34.toInt = 10 * x_27.toInt := by rw [ex_34]; exact zf_mul (by decide) rfl (by omega) (by omega)
                refine lv_aload_n hx hb dX8_reads_43 rfl (lv_at hl 1 rfl) ?_
                refine va_get (D := D) (ci := 8) (v := .ref mce) (C := RX8) (T := TX8) (N := 38) hx hb hts hi_X8_reads_8 hown hK hP 0 rfl rfl 21 (by decide) (hts (.fieldLink RX8 59 "TheLiningsInItModel" "cells" "[J") (List.mem_of_getElem? (i := 3) rfl)) (fun _ h9 => h9) rfl dX8_reads_44 ?_
                refine lv_aload_n hx hb dX8_reads_47 rfl (lv_at hl 1 rfl) ?_
                refine va_get (D := D) (ci := 8) (v := .int nba) (C := RX8) (T := TX8) (N := 38) hx hb hts hi_X8_reads_8 hown hK hP 0 rfl rfl 26 (by decide) (hts (.fieldLink RX8 158 "TheLiningsInItModel" "base" "I") (List.mem_of_getElem? (i := 4) rfl)) (fun _ h9 => h9) rfl dX8_reads_48 ?_
                refine lv_aload_n hx hb dX8_reads_51 rfl (lv_at hl 1 rfl) ?_
                refine va_get (D := D) (ci := 8) (v := .int x_28) (C := RX8) (T := TX8) (N := 38) hx hb hts hi_X8_reads_8 hown hK hP 0 rfl rfl 27 (by decide) (hts (.fieldLink RX8 152 "TheLiningsInItModel" "place" "I") (List.mem_of_getElem? (i := 2) rfl)) (fun _ h9 => h9) rfl dX8_reads_52 ?_
                refine lv_iadd hx hb dX8_reads_55 ?_
                refine lv_topi (fun x_35 ex_35 => ?_)
                have qx_35 : x_35.toInt = nba.toInt + x_28.toInt := by rw [ex_35]; exact zf_add rfl rfl (by omega) (by omega)
                refine va_lald hx hb hK hP 1 1 rfl rfl (zf_in (by omega) (by omega)) dX8_reads_56 ?_
                refine lv_topl (fun x_36 ex_36 => ?_)
                refine lv_l2i hx hb dX8_reads_57 rfl ?_
                refine lv_topi (fun x_37 ex_37 => ?_)
                have hcx_37 : x_37 = zChX gce (nba.toInt + x_28.toInt).toNat := by rw [ex_37, ex_36]; unfold zChX; congr 2; (show x_35.toInt.toNat = _; omega)
                have hdx_37 : x_37.toInt = (zChX gce (nba.toInt + x_28.toInt).toNat).toInt := by rw [hcx_37]
                refine lv_iadd hx hb dX8_reads_58 ?_
                refine lv_topi (fun x_38 ex_38 => ?_)
                have qx_38 : x_38.toInt = x_34.toInt + x_37.toInt := by rw [ex_38]; exact zf_add rfl rfl (by omega) (by omega)
                refine lv_bipush (v := 48) hx hb dX8_reads_59 (by decide) ?_
                refine lv_isub hx hb dX8_reads_61 ?_
                refine lv_topi (fun x_39 ex_39 => ?_)
                have qx_39 : x_39.toInt = x_38.toInt - 48 := by rw [ex_39]; exact zf_sub rfl (by decide) (by omega) (by omega)
                refine va_put (D := D) (ci := 8) (v := .int x_39) (ty := .int) (C := RX8) (T := TX8) (N := 38) hx hb hts hi_X8_reads_8 tyX8 tyX8_ok nmX8 hown hK hP hD hS 0 rfl rfl 29 (by decide) (hts (.fieldLink RX8 161 "TheLiningsInItModel" "number" "I") (List.mem_of_getElem? (i := 1) rfl)) (fun _ h9 => h9) rfl (tyX8_ok 29 (Nat.le_of_ble_eq_true rfl)) rfl rfl (Nat.le_of_ble_eq_true rfl) dX8_reads_62 (fun H locs hP hD hS => ?_)
                have h9R := zRe (ws' := [(zMO m0 npu nte nat_ nde nto nse nhu nga nsd nfa mrf mki mpa mta mla msl mco mhe mso msi msh mce mca mwo mnu mte nba x_28 nen x_39 nwr mwa mke mma mth mtr nra nik), (mce, .inl (cJ, 1280, .inr (.inl gce)))]) hP hD rfl
                clear hP hD
                obtain ⟨hP, hD⟩ := h9R
                refine lv_aload_n hx hb dX8_reads_65 rfl (lv_at hl 1 rfl) ?_
                refine lv_dup hx hb dX8_reads_66 rfl ?_
                refine va_get (D := D) (ci := 8) (v := .int x_28) (C := RX8) (T := TX8) (N := 38) hx hb hts hi_X8_reads_8 hown hK hP 0 rfl rfl 27 (by decide) (hts (.fieldLink RX8 152 "TheLiningsInItModel" "place" "I") (List.mem_of_getElem? (i := 2) rfl)) (fun _ h9 => h9) rfl dX8_reads_67 ?_
                refine lv_iconst (v := 1) hx hb dX8_reads_70 (by decide) ?_
                refine lv_iadd hx hb dX8_reads_71 ?_
                refine lv_topi (fun x_40 ex_40 => ?_)
                have qx_40 : x_40.toInt = x_28.toInt + 1 := by rw [ex_40]; exact zf_add rfl (by decide) (by omega) (by omega)
                refine va_put (D := D) (ci := 8) (v := .int x_40) (ty := .int) (C := RX8) (T := TX8) (N := 38) hx hb hts hi_X8_reads_8 tyX8 tyX8_ok nmX8 hown hK hP hD hS 0 rfl rfl 27 (by decide) (hts (.fieldLink RX8 152 "TheLiningsInItModel" "place" "I") (List.mem_of_getElem? (i := 2) rfl)) (fun _ h9 => h9) rfl (tyX8_ok 27 (Nat.le_of_ble_eq_true rfl)) rfl rfl (Nat.le_of_ble_eq_true rfl) dX8_reads_72 (fun H locs hP hD hS => ?_)
                have h9R := zRe (ws' := [(zMO m0 npu nte nat_ nde nto nse nhu nga nsd nfa mrf mki mpa mta mla msl mco mhe mso msi msh mce mca mwo mnu mte nba x_40 nen x_39 nwr mwa mke mma mth mtr nra nik), (mce, .inl (cJ, 1280, .inr (.inl gce)))]) hP hD rfl
                clear hP hD
                obtain ⟨hP, hD⟩ := h9R
                refine lv_iinc (v := 3) (lv' := [(1, .int 3), (0, .ref m0)]) hx hb dX8_reads_75 hl (k := 0) rfl (by decide) (by decide) rfl (fun ls hl => ?_)
                refine lv_goto (tgt := 23) hx hb dX8_reads_78 (by decide) ?_
                refine lv_iload_n hx hb dX8_reads_23 rfl (lv_at hl 0 rfl) ?_
                refine lv_iconst (v := 3) hx hb dX8_reads_24 (by decide) ?_
                refine lv_icmp_ge (tgt := 81) hx hb dX8_reads_25 (by decide) (fun c_41 => ?_) (fun c_41 => ?_)
                · refine lv_iconst (v := 1) hx hb dX8_reads_81 (by decide) ?_
                  exact W.zret (v := 1) hx hb hr (by decide) (fun t ht hW => ⟨⟨1, (x_40, x_39, nwr), rfl, ⟨(show 0 ≤ x_40.toInt ∧ x_40.toInt ≤ 160 from ⟨by omega, by omega⟩), (show npl.toInt ≤ x_40.toInt ∧ x_40.toInt ≤ nen.toInt from by exact ⟨by omega, by omega⟩), (show ((1 : Int32).toInt = 1 → 0 ≤ x_39.toInt ∧ x_39.toInt ≤ 999) from by first | omega | exact fun h => absurd h (by decide) | exact fun _ => ⟨by decide, by decide⟩), (show ((1 : Int32).toInt = 1 → x_40.toInt = zNe (zMF gce nba.toInt) nen.toInt npl.toInt ∧ x_39.toInt = zNv (zMF gce nba.toInt) npl.toInt x_40.toInt ∧ x_40.toInt ≠ npl.toInt) ∧ ((1 : Int32).toInt = 0 → zNe (zMF gce nba.toInt) nen.toInt npl.toInt = npl.toInt ∧ nwr.toInt = npl.toInt) from by (obtain ⟨z1, z2⟩ := zNum_3 (show zDg (zMF gce nba.toInt) nen.toInt (npl.toInt) from (by have z := hsr_6_0.1 (by omega); exact z)) (show zDg (zMF gce nba.toInt) nen.toInt (npl.toInt + 1) from (by have z := hsr_18_0.1 (by omega); rw [show (x_16 : Int32).toInt = npl.toInt + 1 from by omega] at z; exact z)) (show zDg (zMF gce nba.toInt) nen.toInt (npl.toInt + 2) from (by have z := hsr_30_0.1 (by omega); rw [show (x_28 : Int32).toInt = npl.toInt + 2 from by omega] at z; exact z)); have v0 : zDv (zMF gce nba.toInt) (npl.toInt) = x_13.toInt - 48 := zDv_MF (by omega) (by rw [hcx_13]; first | done | exact congrArg (fun z : Int => (zChX gce z.toNat).toInt) (by omega)); have v1 : zDv (zMF gce nba.toInt) (npl.toInt + 1) = x_25.toInt - 48 := zDv_MF (by omega) (by rw [hcx_25]; first | done | exact congrArg (fun z : Int => (zChX gce z.toNat).toInt) (by omega)); have v2 : zDv (zMF gce nba.toInt) (npl.toInt + 2) = x_37.toInt - 48 := zDv_MF (by omega) (by rw [hcx_37]; first | done | exact congrArg (fun z : Int => (zChX gce z.toNat).toInt) (by omega)); refine ⟨fun _ => ⟨by omega, ?_, by omega⟩, fun h => absurd h (by decide)⟩; rw [show (x_40 : Int32).toInt = npl.toInt + 3 from by omega, z2]; omega)), ⟨by decide, by decide⟩⟩, zRet ht hP hD [0, 1] (by decide) rfl⟩, hS.F ht⟩) hS.2.2 dX8_reads_82
                · exact absurd c_41 (by decide)
  · have fc_4 : r_1.toInt = 0 := zf_eq c_4 rfl (by decide)
    refine lv_aload_n hx hb dX8_reads_12 rfl (lv_at hl 0 rfl) ?_
    refine lv_aload_n hx hb dX8_reads_13 rfl (lv_at hl 0 rfl) ?_
    refine va_get (D := D) (ci := 8) (v := .int npl) (C := RX8) (T := TX8) (N := 38) hx hb hts hi_X8_reads_8 hown hK hP 0 rfl rfl 27 (by decide) (hts (.fieldLink RX8 152 "TheLiningsInItModel" "place" "I") (List.mem_of_getElem? (i := 2) rfl)) (fun _ h9 => h9) rfl dX8_reads_14 ?_
    skip
    refine zw_V (As := [.int npl]) (rest := []) (wr := [(mce, .inl (cJ, 1280, .inr (.inl gce)))]) ⟨hx, hb, hml, hown, hts⟩ (c_F_M_wrong l D cI cJ cZ cP cS po m0 mrf mki mpa mta mla msl mco mhe mso msi msh mce mca mwo mnu mte mwa mke mma mth mtr (npu) (nte) (nat_) (nde) (nto) (nse) (nhu) (nga) (nsd) (nfa) (nba) (npl) (nen) (0) (nwr) (nra) (nik) (npl) hy0 hy1 hy2 hy3 hy4 hy5 hy6 hy7 hy8 hy9 hy10 hy11 hy12 hy13 H.size) (cwV 1 hts gX8_reads_X8_wrong rfl rfl rfl ⟨rfl, dh_X8_wrong⟩ ⟨Nat.le_of_ble_eq_true rfl, Nat.le_of_ble_eq_true rfl⟩) hK hN (hZ.kept hS) hP hD hS hA [0] [1] rfl rfl (by decide) (by decide) (by decide) (va_recv (q := (RX8, TX8, 38)) hK hP (ci := 8) (q0 := 0) rfl rfl) rfl hl.1 rfl (Nat.le_of_ble_eq_true rfl) dX8_reads_17 ⟨Nat.le_of_ble_eq_true rfl, Nat.le_of_ble_eq_true rfl⟩ (fun r_42 u_43 H locs hr_42 hP hD hS => ?_)
    obtain ⟨q_44, rfl⟩ : ∃ z, z = u_43 := ⟨_, rfl⟩
    obtain ⟨hsr_42_0, hr_42⟩ := hr_42
    have h9R := zRe (ws' := [(mce, .inl (cJ, 1280, .inr (.inl gce))), (zMO m0 npu nte nat_ nde nto nse nhu nga nsd nfa mrf mki mpa mta mla msl mco mhe mso msi msh mce mca mwo mnu mte nba npl nen 0 q_44 mwa mke mma mth mtr nra nik)]) hP hD rfl
    clear hP hD
    obtain ⟨hP, hD⟩ := h9R
    obtain rfl := hr_42
    exact W.zret (v := 0) hx hb hr (by decide) (fun t ht hW => ⟨⟨0, (npl, 0, q_44), rfl, ⟨(show 0 ≤ npl.toInt ∧ npl.toInt ≤ 160 from ⟨hy16, hy17⟩), (show npl.toInt ≤ npl.toInt ∧ npl.toInt ≤ nen.toInt from by exact ⟨by omega, by omega⟩), (show ((0 : Int32).toInt = 1 → 0 ≤ (0 : Int32).toInt ∧ (0 : Int32).toInt ≤ 999) from by first | omega | exact fun h => absurd h (by decide) | exact fun _ => ⟨by decide, by decide⟩), (show ((0 : Int32).toInt = 1 → npl.toInt = zNe (zMF gce nba.toInt) nen.toInt npl.toInt ∧ (0 : Int32).toInt = zNv (zMF gce nba.toInt) npl.toInt npl.toInt ∧ npl.toInt ≠ npl.toInt) ∧ ((0 : Int32).toInt = 0 → zNe (zMF gce nba.toInt) nen.toInt npl.toInt = npl.toInt ∧ q_44.toInt = npl.toInt) from by (have k9 : (0 : Int32).toInt = 0 := (by decide); exact ⟨fun h => absurd h (by decide), fun _ => ⟨zNum_0 (hsr_1_0.2 (by omega)), by omega⟩⟩)), ⟨by decide, by decide⟩⟩, zRet ht hP hD [1, 0] (by decide) rfl⟩, hS.F ht⟩) hS.2.2 dX8_reads_20
set_option maxHeartbeats 4000000 in
set_option maxRecDepth 100000 in
theorem c_F_M_most (l : Launch) (D : va_G) (cI cJ cZ cP cS : ClassId) (po : zPool) (m0 mrf mki mpa mta mla msl mco mhe mso msi msh mce mca mwo mnu mte mwa mke mma mth mtr : Nat) (npu nte nat_ nde nto nse nhu nga nsd nfa nba npl nen nnu nwr nra nik : Int32) (w : Int32) (hy0 : 0 ≤ npu.toInt) (hy1 : npu.toInt ≤ 8) (hy2 : 4 ≤ nte.toInt) (hy3 : nte.toInt ≤ 40) (hy4 : 0 ≤ nat_.toInt) (hy5 : nat_.toInt ≤ 40) (hy6 : 0 ≤ nde.toInt) (hy7 : nde.toInt ≤ 24) (hy8 : 0 ≤ nhu.toInt) (hy9 : nhu.toInt ≤ 9) (hy10 : 0 ≤ nra.toInt) (hy11 : nra.toInt ≤ 2000) (hy12 : 0 ≤ nik.toInt) (hy13 : nik.toInt ≤ 1) (hy14 : 0 ≤ w.toInt) (hy15 : w.toInt ≤ 7) : Met l yX8_most wsX8_most ({ frames := 0, cells := 0, slots := 0, locals := 0 }) (va_Pc [.ref m0, .int w] (zR D (zKT cI cJ cZ cP cS) po [(zMO m0 npu nte nat_ nde nto nse nhu nga nsd nfa mrf mki mpa mta mla msl mco mhe mso msi msh mce mca mwo mnu mte nba npl nen nnu nwr mwa mke mma mth mtr nra nik)])) (vp_Si (fun r => 4 ≤ r.toInt ∧ r.toInt ≤ 300 ∧ ((w.toInt = 0 → r.toInt = 24) ∧ (w.toInt = 1 → r.toInt = 300) ∧ (w.toInt = 2 → r.toInt = 9) ∧ (w.toInt = 3 → r.toInt = 9) ∧ (w.toInt = 7 → r.toInt = nte.toInt) ∧ (4 ≤ w.toInt → w.toInt ≤ 6 → r.toInt = 99)))) 0 0 (fun _ => False) := by
  refine Met.ofW (cc := cX8_most) (maxL := 2) (ret := (some .int)) (by decide) rfl ?_
  intro p e s m args below meth c s₁ B hml hv
  obtain ⟨rfl, hP, hK, hN, hZ⟩ := hv
  have hx := B.exec
  have hb := B.bytes
  have hr := B.returns
  have hts := atoms_spec (ws := wsX8_most) B.pre
  have hown : s.vm.findClass RX8 = some m.cls := findClass_of_methodNamed B.named
  have hlocks := B.notSynchronized
  have hl := lv_entry ([.ref m0, .int w]) (n := 2) (Nat.le_of_ble_eq_true rfl)
  rw [lg_entry_eq]
  generalize (lg_sl ([.ref m0, .int w]) ++ List.replicate (2 - (lg_sl ([.ref m0, .int w])).length) Slot.unset).toArray = ls at hl ⊢
  replace hl : lv_has ls 2 [(0, .ref m0), (1, .int w)] := hl
  refine lv_iload_n hx hb dX8_most_0 rfl (lv_at hl 1 rfl) ?_
  refine lv_if_ne (tgt := 9) hx hb dX8_most_1 (by decide) (fun c_1 => ?_) (fun c_1 => ?_)
  · have fc_1 : w.toInt ≠ 0 := zf_ne c_1 rfl (by decide)
    refine lv_iload_n hx hb dX8_most_9 rfl (lv_at hl 1 rfl) ?_
    refine lv_iconst (v := 1) hx hb dX8_most_10 (by decide) ?_
    refine lv_icmp_ne (tgt := 20) hx hb dX8_most_11 (by decide) (fun c_2 => ?_) (fun c_2 => ?_)
    · have fc_2 : w.toInt ≠ 1 := zf_ne c_2 rfl (by decide)
      refine lv_iload_n hx hb dX8_most_20 rfl (lv_at hl 1 rfl) ?_
      refine lv_iconst (v := 2) hx hb dX8_most_21 (by decide) ?_
      refine lv_icmp_eq (tgt := 30) hx hb dX8_most_22 (by decide) (fun c_3 => ?_) (fun c_3 => ?_)
      · have fc_3 : w.toInt = 2 := zf_eq c_3 rfl (by decide)
        refine lv_bipush (v := 9) hx hb dX8_most_30 (by decide) ?_
        refine lv_goto (tgt := 50) hx hb dX8_most_32 (by decide) ?_
        exact W.iret (v := 9) hx hb hr (fun t ht hW => ⟨9, rfl, ⟨by decide, by decide, (show (w.toInt = 0 → (9 : Int32).toInt = 24) ∧ (w.toInt = 1 → (9 : Int32).toInt = 300) ∧ (w.toInt = 2 → (9 : Int32).toInt = 9) ∧ (w.toInt = 3 → (9 : Int32).toInt = 9) ∧ (w.toInt = 7 → (9 : Int32).toInt = nte.toInt) ∧ (4 ≤ w.toInt → w.toInt ≤ 6 → (9 : Int32).toInt = 99) from by (have k9 : (9 : Int32).toInt = 9 := (by decide); refine ⟨?_, ?_, ?_, ?_, ?_, ?_⟩ <;> (intros; omega)))⟩, ht⟩) (fun q hq => by cases hq) dX8_most_50
      · have fc_3 : w.toInt ≠ 2 := zf_ne c_3 rfl (by decide)
        refine lv_iload_n hx hb dX8_most_25 rfl (lv_at hl 1 rfl) ?_
        refine lv_iconst (v := 3) hx hb dX8_most_26 (by decide) ?_
        refine lv_icmp_ne (tgt := 35) hx hb dX8_most_27 (by decide) (fun c_4 => ?_) (fun c_4 => ?_)
        · have fc_4 : w.toInt ≠ 3 := zf_ne c_4 rfl (by decide)
          refine lv_iload_n hx hb dX8_most_35 rfl (lv_at hl 1 rfl) ?_
          refine lv_bipush (v := 7) hx hb dX8_most_36 (by decide) ?_
          refine lv_icmp_ne (tgt := 48) hx hb dX8_most_38 (by decide) (fun c_5 => ?_) (fun c_5 => ?_)
          · have fc_5 : w.toInt ≠ 7 := zf_ne c_5 rfl (by decide)
            refine lv_bipush (v := 99) hx hb dX8_most_48 (by decide) ?_
            exact W.iret (v := 99) hx hb hr (fun t ht hW => ⟨99, rfl, ⟨by decide, by decide, (show (w.toInt = 0 → (99 : Int32).toInt = 24) ∧ (w.toInt = 1 → (99 : Int32).toInt = 300) ∧ (w.toInt = 2 → (99 : Int32).toInt = 9) ∧ (w.toInt = 3 → (99 : Int32).toInt = 9) ∧ (w.toInt = 7 → (99 : Int32).toInt = nte.toInt) ∧ (4 ≤ w.toInt → w.toInt ≤ 6 → (99 : Int32).toInt = 99) from by (have k9 : (99 : Int32).toInt = 99 := (by decide); refine ⟨?_, ?_, ?_, ?_, ?_, ?_⟩ <;> (intros; omega)))⟩, ht⟩) (fun q hq => by cases hq) dX8_most_50
          · have fc_5 : w.toInt = 7 := zf_eq c_5 rfl (by decide)
            refine lv_aload_n hx hb dX8_most_41 rfl (lv_at hl 0 rfl) ?_
            refine va_get (D := D) (ci := 8) (v := .int nte) (C := RX8) (T := TX8) (N := 38) hx hb hts hi_X8_most_8 hown hK hP 0 rfl rfl 1 (by decide) (hts (.fieldLink RX8 7 "TheLiningsInItModel" "teeth" "I") (List.mem_of_getElem? (i := 1) rfl)) (fun _ h9 => h9) rfl dX8_most_42 ?_
            refine lv_goto (tgt := 50) hx hb dX8_most_45 (by decide) ?_
            exact W.iret (v := nte) hx hb hr (fun t ht hW => ⟨nte, rfl, ⟨by omega, by omega, (show (w.toInt = 0 → (nte : Int32).toInt = 24) ∧ (w.toInt = 1 → (nte : Int32).toInt = 300) ∧ (w.toInt = 2 → (nte : Int32).toInt = 9) ∧ (w.toInt = 3 → (nte : Int32).toInt = 9) ∧ (w.toInt = 7 → (nte : Int32).toInt = nte.toInt) ∧ (4 ≤ w.toInt → w.toInt ≤ 6 → (nte : Int32).toInt = 99) from by (refine ⟨?_, ?_, ?_, ?_, ?_, ?_⟩ <;> (intros; omega)))⟩, ht⟩) (fun q hq => by cases hq) dX8_most_50
        · have fc_4 : w.toInt = 3 := zf_eq c_4 rfl (by decide)
          refine lv_bipush (v := 9) hx hb dX8_most_30 (by decide) ?_
          refine lv_goto (tgt := 50) hx hb dX8_most_32 (by decide) ?_
          exact W.iret (v := 9) hx hb hr (fun t ht hW => ⟨9, rfl, ⟨by decide, by decide, (show (w.toInt = 0 → (9 : Int32).toInt = 24) ∧ (w.toInt = 1 → (9 : Int32).toInt = 300) ∧ (w.toInt = 2 → (9 : Int32).toInt = 9) ∧ (w.toInt = 3 → (9 : Int32).toInt = 9) ∧ (w.toInt = 7 → (9 : Int32).toInt = nte.toInt) ∧ (4 ≤ w.toInt → w.toInt ≤ 6 → (9 : Int32).toInt = 99) from by (have k9 : (9 : Int32).toInt = 9 := (by decide); refine ⟨?_, ?_, ?_, ?_, ?_, ?_⟩ <;> (intros; omega)))⟩, ht⟩) (fun q hq => by cases hq) dX8_most_50
    · have fc_2 : w.toInt = 1 := zf_eq c_2 rfl (by decide)
      refine lv_sipush (v := 300) hx hb dX8_most_14 (by decide) ?_
      refine lv_goto (tgt := 50) hx hb dX8_most_17 (by decide) ?_
      exact W.iret (v := 300) hx hb hr (fun t ht hW => ⟨300, rfl, ⟨by decide, by decide, (show (w.toInt = 0 → (300 : Int32).toInt = 24) ∧ (w.toInt = 1 → (300 : Int32).toInt = 300) ∧ (w.toInt = 2 → (300 : Int32).toInt = 9) ∧ (w.toInt = 3 → (300 : Int32).toInt = 9) ∧ (w.toInt = 7 → (300 : Int32).toInt = nte.toInt) ∧ (4 ≤ w.toInt → w.toInt ≤ 6 → (300 : Int32).toInt = 99) from by (have k9 : (300 : Int32).toInt = 300 := (by decide); refine ⟨?_, ?_, ?_, ?_, ?_, ?_⟩ <;> (intros; omega)))⟩, ht⟩) (fun q hq => by cases hq) dX8_most_50
  · have fc_1 : w.toInt = 0 := zf_eq c_1 rfl (by decide)
    refine lv_bipush (v := 24) hx hb dX8_most_4 (by decide) ?_
    refine lv_goto (tgt := 50) hx hb dX8_most_6 (by decide) ?_
    exact W.iret (v := 24) hx hb hr (fun t ht hW => ⟨24, rfl, ⟨by decide, by decide, (show (w.toInt = 0 → (24 : Int32).toInt = 24) ∧ (w.toInt = 1 → (24 : Int32).toInt = 300) ∧ (w.toInt = 2 → (24 : Int32).toInt = 9) ∧ (w.toInt = 3 → (24 : Int32).toInt = 9) ∧ (w.toInt = 7 → (24 : Int32).toInt = nte.toInt) ∧ (4 ≤ w.toInt → w.toInt ≤ 6 → (24 : Int32).toInt = 99) from by (have k9 : (24 : Int32).toInt = 24 := (by decide); refine ⟨?_, ?_, ?_, ?_, ?_, ?_⟩ <;> (intros; omega)))⟩, ht⟩) (fun q hq => by cases hq) dX8_most_50
set_option maxHeartbeats 4000000 in
set_option maxRecDepth 100000 in
theorem c_F_M_isAsked_0 (l : Launch) (D : va_G) (cI cJ cZ cP cS : ClassId) (po : zPool) (m0 mrf mki mpa mta mla msl mco mhe mso msi msh mce mca mwo mnu mte mwa mke mma mth mtr : Nat) (npu nte nat_ nde nto nse nhu nga nsd nfa nba npl nen nnu nwr nra nik : Int32) (v : Int32) (hy0 : 0 ≤ npu.toInt) (hy1 : npu.toInt ≤ 8) (hy2 : 4 ≤ nte.toInt) (hy3 : nte.toInt ≤ 40) (hy4 : 0 ≤ nat_.toInt) (hy5 : nat_.toInt ≤ 40) (hy6 : 0 ≤ nde.toInt) (hy7 : nde.toInt ≤ 24) (hy8 : 0 ≤ nhu.toInt) (hy9 : nhu.toInt ≤ 9) (hy10 : 0 ≤ nra.toInt) (hy11 : nra.toInt ≤ 2000) (hy12 : 0 ≤ nik.toInt) (hy13 : nik.toInt ≤ 1) : Met l yX8_isAsked wsX8_isAsked ({ frames := 1, cells := 0, slots := 0, locals := 21 }) (va_Pc [.ref m0, .int 0, .int v] (zR D (zKT cI cJ cZ cP cS) po [(zMO m0 npu nte nat_ nde nto nse nhu nga nsd nfa mrf mki mpa mta mla msl mco mhe mso msi msh mce mca mwo mnu mte nba npl nen nnu nwr mwa mke mma mth mtr nra nik)])) (vp_Si (fun r => 0 ≤ r.toInt ∧ r.toInt ≤ 1 ∧ ((r.toInt = 1 ↔ (0 ≤ v.toInt ∧ v.toInt ≤ 24))))) 0 0 (fun _ => False) := by
  refine Met.ofW (cc := cX8_isAsked) (maxL := 3) (ret := (some .boolean)) (by decide) rfl ?_
  intro p e s m args below meth c s₁ B hml hv
  obtain ⟨rfl, hP, hK, hN, hZ⟩ := hv
  have hx := B.exec
  have hb := B.bytes
  have hr := B.returns
  have hts := atoms_spec (ws := wsX8_isAsked) B.pre
  have hown : s.vm.findClass RX8 = some m.cls := findClass_of_methodNamed B.named
  have hlocks := B.notSynchronized
  have hl := lv_entry ([.ref m0, .int 0, .int v]) (n := 3) (Nat.le_of_ble_eq_true rfl)
  rw [lg_entry_eq]
  generalize (lg_sl ([.ref m0, .int 0, .int v]) ++ List.replicate (3 - (lg_sl ([.ref m0, .int 0, .int v])).length) Slot.unset).toArray = ls at hl ⊢
  replace hl : lv_has ls 3 [(0, .ref m0), (1, .int 0), (2, .int v)] := hl
  refine lv_iload_n hx hb dX8_isAsked_0 rfl (lv_at hl 2 rfl) ?_
  refine lv_iload_n hx hb dX8_isAsked_1 rfl (lv_at hl 1 rfl) ?_
  refine lv_iconst (v := 3) hx hb dX8_isAsked_2 (by decide) ?_
  refine lv_icmp_ne (tgt := 10) hx hb dX8_isAsked_3 (by decide) (fun c_1 => ?_) (fun c_1 => ?_)
  · refine lv_iconst (v := 0) hx hb dX8_isAsked_10 (by decide) ?_
    refine lv_icmp_lt (tgt := 27) hx hb dX8_isAsked_11 (by decide) (fun c_2 => ?_) (fun c_2 => ?_)
    · have fc_2 : v.toInt < 0 := zf_lt c_2 rfl (by decide)
      refine lv_iconst (v := 0) hx hb dX8_isAsked_27 (by decide) ?_
      exact W.zret (v := 0) hx hb hr (by decide) (fun t ht hW => ⟨0, rfl, ⟨by decide, by decide, (show ((0 : Int32).toInt = 1 ↔ (0 ≤ v.toInt ∧ v.toInt ≤ 24)) from by (have k9 : (0 : Int32).toInt = 0 := (by decide); omega))⟩, ht⟩) (fun q hq => by cases hq) dX8_isAsked_28
    · have fc_2 : 0 ≤ v.toInt := zf_nlt c_2 rfl (by decide)
      refine lv_iload_n hx hb dX8_isAsked_14 rfl (lv_at hl 2 rfl) ?_
      refine lv_aload_n hx hb dX8_isAsked_15 rfl (lv_at hl 0 rfl) ?_
      refine lv_iload_n hx hb dX8_isAsked_16 rfl (lv_at hl 1 rfl) ?_
      have kc0 : (0 : Int32).toInt = 0 := by decide
      refine zc_V (As := [.int 0]) (rest := [.int v]) ⟨hx, hb, hml, hown, hts⟩ (c_F_M_most l D cI cJ cZ cP cS po m0 mrf mki mpa mta mla msl mco mhe mso msi msh mce mca mwo mnu mte mwa mke mma mth mtr (npu) (nte) (nat_) (nde) (nto) (nse) (nhu) (nga) (nsd) (nfa) (nba) (npl) (nen) (nnu) (nwr) (nra) (nik) (0) hy0 hy1 hy2 hy3 hy4 hy5 hy6 hy7 hy8 hy9 hy10 hy11 hy12 hy13 (by omega) (by omega)) (cwV 1 hts gX8_isAsked_X8_most rfl rfl rfl ⟨rfl, dh_X8_most⟩ ⟨Nat.le_of_ble_eq_true rfl, Nat.le_of_ble_eq_true rfl⟩) hK hN hZ hP (hP.sub [0] rfl) (va_recv (q := (RX8, TX8, 38)) hK hP (ci := 8) (q0 := 0) rfl rfl) rfl hl.1 rfl (Nat.le_of_ble_eq_true rfl) dX8_isAsked_17 ⟨Nat.le_of_ble_eq_true rfl, Nat.le_of_ble_eq_true rfl⟩ (fun r_3 hr_3 => ?_)
      obtain ⟨g_4, g_5, hsr_3_0⟩ := hr_3
      refine lv_icmp_gt (tgt := 27) hx hb dX8_isAsked_20 (by decide) (fun c_6 => ?_) (fun c_6 => ?_)
      · have fc_6 : r_3.toInt < v.toInt := zf_lt c_6 rfl rfl
        refine lv_iconst (v := 0) hx hb dX8_isAsked_27 (by decide) ?_
        exact W.zret (v := 0) hx hb hr (by decide) (fun t ht hW => ⟨0, rfl, ⟨by decide, by decide, (show ((0 : Int32).toInt = 1 ↔ (0 ≤ v.toInt ∧ v.toInt ≤ 24)) from by (have k9 : (0 : Int32).toInt = 0 := (by decide); omega))⟩, ht⟩) (fun q hq => by cases hq) dX8_isAsked_28
      · have fc_6 : v.toInt ≤ r_3.toInt := zf_nlt c_6 rfl rfl
        refine lv_iconst (v := 1) hx hb dX8_isAsked_23 (by decide) ?_
        refine lv_goto (tgt := 28) hx hb dX8_isAsked_24 (by decide) ?_
        exact W.zret (v := 1) hx hb hr (by decide) (fun t ht hW => ⟨1, rfl, ⟨by decide, by decide, (show ((1 : Int32).toInt = 1 ↔ (0 ≤ v.toInt ∧ v.toInt ≤ 24)) from by (have k9 : (1 : Int32).toInt = 1 := (by decide); omega))⟩, ht⟩) (fun q hq => by cases hq) dX8_isAsked_28
  · exact absurd c_1 (by decide)
set_option maxHeartbeats 4000000 in
set_option maxRecDepth 100000 in
theorem c_F_M_isAsked_1 (l : Launch) (D : va_G) (cI cJ cZ cP cS : ClassId) (po : zPool) (m0 mrf mki mpa mta mla msl mco mhe mso msi msh mce mca mwo mnu mte mwa mke mma mth mtr : Nat) (npu nte nat_ nde nto nse nhu nga nsd nfa nba npl nen nnu nwr nra nik : Int32) (v : Int32) (hy0 : 0 ≤ npu.toInt) (hy1 : npu.toInt ≤ 8) (hy2 : 4 ≤ nte.toInt) (hy3 : nte.toInt ≤ 40) (hy4 : 0 ≤ nat_.toInt) (hy5 : nat_.toInt ≤ 40) (hy6 : 0 ≤ nde.toInt) (hy7 : nde.toInt ≤ 24) (hy8 : 0 ≤ nhu.toInt) (hy9 : nhu.toInt ≤ 9) (hy10 : 0 ≤ nra.toInt) (hy11 : nra.toInt ≤ 2000) (hy12 : 0 ≤ nik.toInt) (hy13 : nik.toInt ≤ 1) : Met l yX8_isAsked wsX8_isAsked ({ frames := 1, cells := 0, slots := 0, locals := 21 }) (va_Pc [.ref m0, .int 1, .int v] (zR D (zKT cI cJ cZ cP cS) po [(zMO m0 npu nte nat_ nde nto nse nhu nga nsd nfa mrf mki mpa mta mla msl mco mhe mso msi msh mce mca mwo mnu mte nba npl nen nnu nwr mwa mke mma mth mtr nra nik)])) (vp_Si (fun r => 0 ≤ r.toInt ∧ r.toInt ≤ 1 ∧ ((r.toInt = 1 ↔ (0 ≤ v.toInt ∧ v.toInt ≤ 300))))) 0 0 (fun _ => False) := by
  refine Met.ofW (cc := cX8_isAsked) (maxL := 3) (ret := (some .boolean)) (by decide) rfl ?_
  intro p e s m args below meth c s₁ B hml hv
  obtain ⟨rfl, hP, hK, hN, hZ⟩ := hv
  have hx := B.exec
  have hb := B.bytes
  have hr := B.returns
  have hts := atoms_spec (ws := wsX8_isAsked) B.pre
  have hown : s.vm.findClass RX8 = some m.cls := findClass_of_methodNamed B.named
  have hlocks := B.notSynchronized
  have hl := lv_entry ([.ref m0, .int 1, .int v]) (n := 3) (Nat.le_of_ble_eq_true rfl)
  rw [lg_entry_eq]
  generalize (lg_sl ([.ref m0, .int 1, .int v]) ++ List.replicate (3 - (lg_sl ([.ref m0, .int 1, .int v])).length) Slot.unset).toArray = ls at hl ⊢
  replace hl : lv_has ls 3 [(0, .ref m0), (1, .int 1), (2, .int v)] := hl
  refine lv_iload_n hx hb dX8_isAsked_0 rfl (lv_at hl 2 rfl) ?_
  refine lv_iload_n hx hb dX8_isAsked_1 rfl (lv_at hl 1 rfl) ?_
  refine lv_iconst (v := 3) hx hb dX8_isAsked_2 (by decide) ?_
  refine lv_icmp_ne (tgt := 10) hx hb dX8_isAsked_3 (by decide) (fun c_1 => ?_) (fun c_1 => ?_)
  · refine lv_iconst (v := 0) hx hb dX8_isAsked_10 (by decide) ?_
    refine lv_icmp_lt (tgt := 27) hx hb dX8_isAsked_11 (by decide) (fun c_2 => ?_) (fun c_2 => ?_)
    · have fc_2 : v.toInt < 0 := zf_lt c_2 rfl (by decide)
      refine lv_iconst (v := 0) hx hb dX8_isAsked_27 (by decide) ?_
      exact W.zret (v := 0) hx hb hr (by decide) (fun t ht hW => ⟨0, rfl, ⟨by decide, by decide, (show ((0 : Int32).toInt = 1 ↔ (0 ≤ v.toInt ∧ v.toInt ≤ 300)) from by (have k9 : (0 : Int32).toInt = 0 := (by decide); omega))⟩, ht⟩) (fun q hq => by cases hq) dX8_isAsked_28
    · have fc_2 : 0 ≤ v.toInt := zf_nlt c_2 rfl (by decide)
      refine lv_iload_n hx hb dX8_isAsked_14 rfl (lv_at hl 2 rfl) ?_
      refine lv_aload_n hx hb dX8_isAsked_15 rfl (lv_at hl 0 rfl) ?_
      refine lv_iload_n hx hb dX8_isAsked_16 rfl (lv_at hl 1 rfl) ?_
      have kc1 : (1 : Int32).toInt = 1 := by decide
      refine zc_V (As := [.int 1]) (rest := [.int v]) ⟨hx, hb, hml, hown, hts⟩ (c_F_M_most l D cI cJ cZ cP cS po m0 mrf mki mpa mta mla msl mco mhe mso msi msh mce mca mwo mnu mte mwa mke mma mth mtr (npu) (nte) (nat_) (nde) (nto) (nse) (nhu) (nga) (nsd) (nfa) (nba) (npl) (nen) (nnu) (nwr) (nra) (nik) (1) hy0 hy1 hy2 hy3 hy4 hy5 hy6 hy7 hy8 hy9 hy10 hy11 hy12 hy13 (by omega) (by omega)) (cwV 1 hts gX8_isAsked_X8_most rfl rfl rfl ⟨rfl, dh_X8_most⟩ ⟨Nat.le_of_ble_eq_true rfl, Nat.le_of_ble_eq_true rfl⟩) hK hN hZ hP (hP.sub [0] rfl) (va_recv (q := (RX8, TX8, 38)) hK hP (ci := 8) (q0 := 0) rfl rfl) rfl hl.1 rfl (Nat.le_of_ble_eq_true rfl) dX8_isAsked_17 ⟨Nat.le_of_ble_eq_true rfl, Nat.le_of_ble_eq_true rfl⟩ (fun r_3 hr_3 => ?_)
      obtain ⟨g_4, g_5, hsr_3_0⟩ := hr_3
      refine lv_icmp_gt (tgt := 27) hx hb dX8_isAsked_20 (by decide) (fun c_6 => ?_) (fun c_6 => ?_)
      · have fc_6 : r_3.toInt < v.toInt := zf_lt c_6 rfl rfl
        refine lv_iconst (v := 0) hx hb dX8_isAsked_27 (by decide) ?_
        exact W.zret (v := 0) hx hb hr (by decide) (fun t ht hW => ⟨0, rfl, ⟨by decide, by decide, (show ((0 : Int32).toInt = 1 ↔ (0 ≤ v.toInt ∧ v.toInt ≤ 300)) from by (have k9 : (0 : Int32).toInt = 0 := (by decide); omega))⟩, ht⟩) (fun q hq => by cases hq) dX8_isAsked_28
      · have fc_6 : v.toInt ≤ r_3.toInt := zf_nlt c_6 rfl rfl
        refine lv_iconst (v := 1) hx hb dX8_isAsked_23 (by decide) ?_
        refine lv_goto (tgt := 28) hx hb dX8_isAsked_24 (by decide) ?_
        exact W.zret (v := 1) hx hb hr (by decide) (fun t ht hW => ⟨1, rfl, ⟨by decide, by decide, (show ((1 : Int32).toInt = 1 ↔ (0 ≤ v.toInt ∧ v.toInt ≤ 300)) from by (have k9 : (1 : Int32).toInt = 1 := (by decide); omega))⟩, ht⟩) (fun q hq => by cases hq) dX8_isAsked_28
  · exact absurd c_1 (by decide)
set_option maxHeartbeats 4000000 in
set_option maxRecDepth 100000 in
theorem c_F_M_isAsked_2 (l : Launch) (D : va_G) (cI cJ cZ cP cS : ClassId) (po : zPool) (m0 mrf mki mpa mta mla msl mco mhe mso msi msh mce mca mwo mnu mte mwa mke mma mth mtr : Nat) (npu nte nat_ nde nto nse nhu nga nsd nfa nba npl nen nnu nwr nra nik : Int32) (v : Int32) (hy0 : 0 ≤ npu.toInt) (hy1 : npu.toInt ≤ 8) (hy2 : 4 ≤ nte.toInt) (hy3 : nte.toInt ≤ 40) (hy4 : 0 ≤ nat_.toInt) (hy5 : nat_.toInt ≤ 40) (hy6 : 0 ≤ nde.toInt) (hy7 : nde.toInt ≤ 24) (hy8 : 0 ≤ nhu.toInt) (hy9 : nhu.toInt ≤ 9) (hy10 : 0 ≤ nra.toInt) (hy11 : nra.toInt ≤ 2000) (hy12 : 0 ≤ nik.toInt) (hy13 : nik.toInt ≤ 1) : Met l yX8_isAsked wsX8_isAsked ({ frames := 1, cells := 0, slots := 0, locals := 21 }) (va_Pc [.ref m0, .int 2, .int v] (zR D (zKT cI cJ cZ cP cS) po [(zMO m0 npu nte nat_ nde nto nse nhu nga nsd nfa mrf mki mpa mta mla msl mco mhe mso msi msh mce mca mwo mnu mte nba npl nen nnu nwr mwa mke mma mth mtr nra nik)])) (vp_Si (fun r => 0 ≤ r.toInt ∧ r.toInt ≤ 1 ∧ ((r.toInt = 1 ↔ (0 ≤ v.toInt ∧ v.toInt ≤ 9))))) 0 0 (fun _ => False) := by
  refine Met.ofW (cc := cX8_isAsked) (maxL := 3) (ret := (some .boolean)) (by decide) rfl ?_
  intro p e s m args below meth c s₁ B hml hv
  obtain ⟨rfl, hP, hK, hN, hZ⟩ := hv
  have hx := B.exec
  have hb := B.bytes
  have hr := B.returns
  have hts := atoms_spec (ws := wsX8_isAsked) B.pre
  have hown : s.vm.findClass RX8 = some m.cls := findClass_of_methodNamed B.named
  have hlocks := B.notSynchronized
  have hl := lv_entry ([.ref m0, .int 2, .int v]) (n := 3) (Nat.le_of_ble_eq_true rfl)
  rw [lg_entry_eq]
  generalize (lg_sl ([.ref m0, .int 2, .int v]) ++ List.replicate (3 - (lg_sl ([.ref m0, .int 2, .int v])).length) Slot.unset).toArray = ls at hl ⊢
  replace hl : lv_has ls 3 [(0, .ref m0), (1, .int 2), (2, .int v)] := hl
  refine lv_iload_n hx hb dX8_isAsked_0 rfl (lv_at hl 2 rfl) ?_
  refine lv_iload_n hx hb dX8_isAsked_1 rfl (lv_at hl 1 rfl) ?_
  refine lv_iconst (v := 3) hx hb dX8_isAsked_2 (by decide) ?_
  refine lv_icmp_ne (tgt := 10) hx hb dX8_isAsked_3 (by decide) (fun c_1 => ?_) (fun c_1 => ?_)
  · refine lv_iconst (v := 0) hx hb dX8_isAsked_10 (by decide) ?_
    refine lv_icmp_lt (tgt := 27) hx hb dX8_isAsked_11 (by decide) (fun c_2 => ?_) (fun c_2 => ?_)
    · have fc_2 : v.toInt < 0 := zf_lt c_2 rfl (by decide)
      refine lv_iconst (v := 0) hx hb dX8_isAsked_27 (by decide) ?_
      exact W.zret (v := 0) hx hb hr (by decide) (fun t ht hW => ⟨0, rfl, ⟨by decide, by decide, (show ((0 : Int32).toInt = 1 ↔ (0 ≤ v.toInt ∧ v.toInt ≤ 9)) from by (have k9 : (0 : Int32).toInt = 0 := (by decide); omega))⟩, ht⟩) (fun q hq => by cases hq) dX8_isAsked_28
    · have fc_2 : 0 ≤ v.toInt := zf_nlt c_2 rfl (by decide)
      refine lv_iload_n hx hb dX8_isAsked_14 rfl (lv_at hl 2 rfl) ?_
      refine lv_aload_n hx hb dX8_isAsked_15 rfl (lv_at hl 0 rfl) ?_
      refine lv_iload_n hx hb dX8_isAsked_16 rfl (lv_at hl 1 rfl) ?_
      have kc2 : (2 : Int32).toInt = 2 := by decide
      refine zc_V (As := [.int 2]) (rest := [.int v]) ⟨hx, hb, hml, hown, hts⟩ (c_F_M_most l D cI cJ cZ cP cS po m0 mrf mki mpa mta mla msl mco mhe mso msi msh mce mca mwo mnu mte mwa mke mma mth mtr (npu) (nte) (nat_) (nde) (nto) (nse) (nhu) (nga) (nsd) (nfa) (nba) (npl) (nen) (nnu) (nwr) (nra) (nik) (2) hy0 hy1 hy2 hy3 hy4 hy5 hy6 hy7 hy8 hy9 hy10 hy11 hy12 hy13 (by omega) (by omega)) (cwV 1 hts gX8_isAsked_X8_most rfl rfl rfl ⟨rfl, dh_X8_most⟩ ⟨Nat.le_of_ble_eq_true rfl, Nat.le_of_ble_eq_true rfl⟩) hK hN hZ hP (hP.sub [0] rfl) (va_recv (q := (RX8, TX8, 38)) hK hP (ci := 8) (q0 := 0) rfl rfl) rfl hl.1 rfl (Nat.le_of_ble_eq_true rfl) dX8_isAsked_17 ⟨Nat.le_of_ble_eq_true rfl, Nat.le_of_ble_eq_true rfl⟩ (fun r_3 hr_3 => ?_)
      obtain ⟨g_4, g_5, hsr_3_0⟩ := hr_3
      refine lv_icmp_gt (tgt := 27) hx hb dX8_isAsked_20 (by decide) (fun c_6 => ?_) (fun c_6 => ?_)
      · have fc_6 : r_3.toInt < v.toInt := zf_lt c_6 rfl rfl
        refine lv_iconst (v := 0) hx hb dX8_isAsked_27 (by decide) ?_
        exact W.zret (v := 0) hx hb hr (by decide) (fun t ht hW => ⟨0, rfl, ⟨by decide, by decide, (show ((0 : Int32).toInt = 1 ↔ (0 ≤ v.toInt ∧ v.toInt ≤ 9)) from by (have k9 : (0 : Int32).toInt = 0 := (by decide); omega))⟩, ht⟩) (fun q hq => by cases hq) dX8_isAsked_28
      · have fc_6 : v.toInt ≤ r_3.toInt := zf_nlt c_6 rfl rfl
        refine lv_iconst (v := 1) hx hb dX8_isAsked_23 (by decide) ?_
        refine lv_goto (tgt := 28) hx hb dX8_isAsked_24 (by decide) ?_
        exact W.zret (v := 1) hx hb hr (by decide) (fun t ht hW => ⟨1, rfl, ⟨by decide, by decide, (show ((1 : Int32).toInt = 1 ↔ (0 ≤ v.toInt ∧ v.toInt ≤ 9)) from by (have k9 : (1 : Int32).toInt = 1 := (by decide); omega))⟩, ht⟩) (fun q hq => by cases hq) dX8_isAsked_28
  · exact absurd c_1 (by decide)
set_option maxHeartbeats 4000000 in
set_option maxRecDepth 100000 in
theorem c_F_M_isAsked_3 (l : Launch) (D : va_G) (cI cJ cZ cP cS : ClassId) (po : zPool) (m0 mrf mki mpa mta mla msl mco mhe mso msi msh mce mca mwo mnu mte mwa mke mma mth mtr : Nat) (npu nte nat_ nde nto nse nhu nga nsd nfa nba npl nen nnu nwr nra nik : Int32) (v : Int32) (hy0 : 0 ≤ npu.toInt) (hy1 : npu.toInt ≤ 8) (hy2 : 4 ≤ nte.toInt) (hy3 : nte.toInt ≤ 40) (hy4 : 0 ≤ nat_.toInt) (hy5 : nat_.toInt ≤ 40) (hy6 : 0 ≤ nde.toInt) (hy7 : nde.toInt ≤ 24) (hy8 : 0 ≤ nhu.toInt) (hy9 : nhu.toInt ≤ 9) (hy10 : 0 ≤ nra.toInt) (hy11 : nra.toInt ≤ 2000) (hy12 : 0 ≤ nik.toInt) (hy13 : nik.toInt ≤ 1) : Met l yX8_isAsked wsX8_isAsked ({ frames := 1, cells := 0, slots := 0, locals := 21 }) (va_Pc [.ref m0, .int 3, .int v] (zR D (zKT cI cJ cZ cP cS) po [(zMO m0 npu nte nat_ nde nto nse nhu nga nsd nfa mrf mki mpa mta mla msl mco mhe mso msi msh mce mca mwo mnu mte nba npl nen nnu nwr mwa mke mma mth mtr nra nik)])) (vp_Si (fun r => 0 ≤ r.toInt ∧ r.toInt ≤ 1 ∧ ((r.toInt = 1 ↔ (1 ≤ v.toInt ∧ v.toInt ≤ 9))))) 0 0 (fun _ => False) := by
  refine Met.ofW (cc := cX8_isAsked) (maxL := 3) (ret := (some .boolean)) (by decide) rfl ?_
  intro p e s m args below meth c s₁ B hml hv
  obtain ⟨rfl, hP, hK, hN, hZ⟩ := hv
  have hx := B.exec
  have hb := B.bytes
  have hr := B.returns
  have hts := atoms_spec (ws := wsX8_isAsked) B.pre
  have hown : s.vm.findClass RX8 = some m.cls := findClass_of_methodNamed B.named
  have hlocks := B.notSynchronized
  have hl := lv_entry ([.ref m0, .int 3, .int v]) (n := 3) (Nat.le_of_ble_eq_true rfl)
  rw [lg_entry_eq]
  generalize (lg_sl ([.ref m0, .int 3, .int v]) ++ List.replicate (3 - (lg_sl ([.ref m0, .int 3, .int v])).length) Slot.unset).toArray = ls at hl ⊢
  replace hl : lv_has ls 3 [(0, .ref m0), (1, .int 3), (2, .int v)] := hl
  refine lv_iload_n hx hb dX8_isAsked_0 rfl (lv_at hl 2 rfl) ?_
  refine lv_iload_n hx hb dX8_isAsked_1 rfl (lv_at hl 1 rfl) ?_
  refine lv_iconst (v := 3) hx hb dX8_isAsked_2 (by decide) ?_
  refine lv_icmp_ne (tgt := 10) hx hb dX8_isAsked_3 (by decide) (fun c_1 => ?_) (fun c_1 => ?_)
  · exact absurd c_1 (by decide)
  · refine lv_iconst (v := 1) hx hb dX8_isAsked_6 (by decide) ?_
    refine lv_goto (tgt := 11) hx hb dX8_isAsked_7 (by decide) ?_
    refine lv_icmp_lt (tgt := 27) hx hb dX8_isAsked_11 (by decide) (fun c_2 => ?_) (fun c_2 => ?_)
    · have fc_2 : v.toInt < 1 := zf_lt c_2 rfl (by decide)
      refine lv_iconst (v := 0) hx hb dX8_isAsked_27 (by decide) ?_
      exact W.zret (v := 0) hx hb hr (by decide) (fun t ht hW => ⟨0, rfl, ⟨by decide, by decide, (show ((0 : Int32).toInt = 1 ↔ (1 ≤ v.toInt ∧ v.toInt ≤ 9)) from by (have k9 : (0 : Int32).toInt = 0 := (by decide); omega))⟩, ht⟩) (fun q hq => by cases hq) dX8_isAsked_28
    · have fc_2 : 1 ≤ v.toInt := zf_nlt c_2 rfl (by decide)
      refine lv_iload_n hx hb dX8_isAsked_14 rfl (lv_at hl 2 rfl) ?_
      refine lv_aload_n hx hb dX8_isAsked_15 rfl (lv_at hl 0 rfl) ?_
      refine lv_iload_n hx hb dX8_isAsked_16 rfl (lv_at hl 1 rfl) ?_
      have kc3 : (3 : Int32).toInt = 3 := by decide
      refine zc_V (As := [.int 3]) (rest := [.int v]) ⟨hx, hb, hml, hown, hts⟩ (c_F_M_most l D cI cJ cZ cP cS po m0 mrf mki mpa mta mla msl mco mhe mso msi msh mce mca mwo mnu mte mwa mke mma mth mtr (npu) (nte) (nat_) (nde) (nto) (nse) (nhu) (nga) (nsd) (nfa) (nba) (npl) (nen) (nnu) (nwr) (nra) (nik) (3) hy0 hy1 hy2 hy3 hy4 hy5 hy6 hy7 hy8 hy9 hy10 hy11 hy12 hy13 (by omega) (by omega)) (cwV 1 hts gX8_isAsked_X8_most rfl rfl rfl ⟨rfl, dh_X8_most⟩ ⟨Nat.le_of_ble_eq_true rfl, Nat.le_of_ble_eq_true rfl⟩) hK hN hZ hP (hP.sub [0] rfl) (va_recv (q := (RX8, TX8, 38)) hK hP (ci := 8) (q0 := 0) rfl rfl) rfl hl.1 rfl (Nat.le_of_ble_eq_true rfl) dX8_isAsked_17 ⟨Nat.le_of_ble_eq_true rfl, Nat.le_of_ble_eq_true rfl⟩ (fun r_3 hr_3 => ?_)
      obtain ⟨g_4, g_5, hsr_3_0⟩ := hr_3
      refine lv_icmp_gt (tgt := 27) hx hb dX8_isAsked_20 (by decide) (fun c_6 => ?_) (fun c_6 => ?_)
      · have fc_6 : r_3.toInt < v.toInt := zf_lt c_6 rfl rfl
        refine lv_iconst (v := 0) hx hb dX8_isAsked_27 (by decide) ?_
        exact W.zret (v := 0) hx hb hr (by decide) (fun t ht hW => ⟨0, rfl, ⟨by decide, by decide, (show ((0 : Int32).toInt = 1 ↔ (1 ≤ v.toInt ∧ v.toInt ≤ 9)) from by (have k9 : (0 : Int32).toInt = 0 := (by decide); omega))⟩, ht⟩) (fun q hq => by cases hq) dX8_isAsked_28
      · have fc_6 : v.toInt ≤ r_3.toInt := zf_nlt c_6 rfl rfl
        refine lv_iconst (v := 1) hx hb dX8_isAsked_23 (by decide) ?_
        refine lv_goto (tgt := 28) hx hb dX8_isAsked_24 (by decide) ?_
        exact W.zret (v := 1) hx hb hr (by decide) (fun t ht hW => ⟨1, rfl, ⟨by decide, by decide, (show ((1 : Int32).toInt = 1 ↔ (1 ≤ v.toInt ∧ v.toInt ≤ 9)) from by (have k9 : (1 : Int32).toInt = 1 := (by decide); omega))⟩, ht⟩) (fun q hq => by cases hq) dX8_isAsked_28
set_option maxHeartbeats 4000000 in
set_option maxRecDepth 100000 in
theorem c_F_M_isAsked_7 (l : Launch) (D : va_G) (cI cJ cZ cP cS : ClassId) (po : zPool) (m0 mrf mki mpa mta mla msl mco mhe mso msi msh mce mca mwo mnu mte mwa mke mma mth mtr : Nat) (npu nte nat_ nde nto nse nhu nga nsd nfa nba npl nen nnu nwr nra nik : Int32) (v : Int32) (hy0 : 0 ≤ npu.toInt) (hy1 : npu.toInt ≤ 8) (hy2 : 4 ≤ nte.toInt) (hy3 : nte.toInt ≤ 40) (hy4 : 0 ≤ nat_.toInt) (hy5 : nat_.toInt ≤ 40) (hy6 : 0 ≤ nde.toInt) (hy7 : nde.toInt ≤ 24) (hy8 : 0 ≤ nhu.toInt) (hy9 : nhu.toInt ≤ 9) (hy10 : 0 ≤ nra.toInt) (hy11 : nra.toInt ≤ 2000) (hy12 : 0 ≤ nik.toInt) (hy13 : nik.toInt ≤ 1) : Met l yX8_isAsked wsX8_isAsked ({ frames := 1, cells := 0, slots := 0, locals := 21 }) (va_Pc [.ref m0, .int 7, .int v] (zR D (zKT cI cJ cZ cP cS) po [(zMO m0 npu nte nat_ nde nto nse nhu nga nsd nfa mrf mki mpa mta mla msl mco mhe mso msi msh mce mca mwo mnu mte nba npl nen nnu nwr mwa mke mma mth mtr nra nik)])) (vp_Si (fun r => 0 ≤ r.toInt ∧ r.toInt ≤ 1 ∧ ((r.toInt = 1 ↔ (0 ≤ v.toInt ∧ v.toInt ≤ nte.toInt))))) 0 0 (fun _ => False) := by
  refine Met.ofW (cc := cX8_isAsked) (maxL := 3) (ret := (some .boolean)) (by decide) rfl ?_
  intro p e s m args below meth c s₁ B hml hv
  obtain ⟨rfl, hP, hK, hN, hZ⟩ := hv
  have hx := B.exec
  have hb := B.bytes
  have hr := B.returns
  have hts := atoms_spec (ws := wsX8_isAsked) B.pre
  have hown : s.vm.findClass RX8 = some m.cls := findClass_of_methodNamed B.named
  have hlocks := B.notSynchronized
  have hl := lv_entry ([.ref m0, .int 7, .int v]) (n := 3) (Nat.le_of_ble_eq_true rfl)
  rw [lg_entry_eq]
  generalize (lg_sl ([.ref m0, .int 7, .int v]) ++ List.replicate (3 - (lg_sl ([.ref m0, .int 7, .int v])).length) Slot.unset).toArray = ls at hl ⊢
  replace hl : lv_has ls 3 [(0, .ref m0), (1, .int 7), (2, .int v)] := hl
  refine lv_iload_n hx hb dX8_isAsked_0 rfl (lv_at hl 2 rfl) ?_
  refine lv_iload_n hx hb dX8_isAsked_1 rfl (lv_at hl 1 rfl) ?_
  refine lv_iconst (v := 3) hx hb dX8_isAsked_2 (by decide) ?_
  refine lv_icmp_ne (tgt := 10) hx hb dX8_isAsked_3 (by decide) (fun c_1 => ?_) (fun c_1 => ?_)
  · refine lv_iconst (v := 0) hx hb dX8_isAsked_10 (by decide) ?_
    refine lv_icmp_lt (tgt := 27) hx hb dX8_isAsked_11 (by decide) (fun c_2 => ?_) (fun c_2 => ?_)
    · have fc_2 : v.toInt < 0 := zf_lt c_2 rfl (by decide)
      refine lv_iconst (v := 0) hx hb dX8_isAsked_27 (by decide) ?_
      exact W.zret (v := 0) hx hb hr (by decide) (fun t ht hW => ⟨0, rfl, ⟨by decide, by decide, (show ((0 : Int32).toInt = 1 ↔ (0 ≤ v.toInt ∧ v.toInt ≤ nte.toInt)) from by (have k9 : (0 : Int32).toInt = 0 := (by decide); omega))⟩, ht⟩) (fun q hq => by cases hq) dX8_isAsked_28
    · have fc_2 : 0 ≤ v.toInt := zf_nlt c_2 rfl (by decide)
      refine lv_iload_n hx hb dX8_isAsked_14 rfl (lv_at hl 2 rfl) ?_
      refine lv_aload_n hx hb dX8_isAsked_15 rfl (lv_at hl 0 rfl) ?_
      refine lv_iload_n hx hb dX8_isAsked_16 rfl (lv_at hl 1 rfl) ?_
      have kc7 : (7 : Int32).toInt = 7 := by decide
      refine zc_V (As := [.int 7]) (rest := [.int v]) ⟨hx, hb, hml, hown, hts⟩ (c_F_M_most l D cI cJ cZ cP cS po m0 mrf mki mpa mta mla msl mco mhe mso msi msh mce mca mwo mnu mte mwa mke mma mth mtr (npu) (nte) (nat_) (nde) (nto) (nse) (nhu) (nga) (nsd) (nfa) (nba) (npl) (nen) (nnu) (nwr) (nra) (nik) (7) hy0 hy1 hy2 hy3 hy4 hy5 hy6 hy7 hy8 hy9 hy10 hy11 hy12 hy13 (by omega) (by omega)) (cwV 1 hts gX8_isAsked_X8_most rfl rfl rfl ⟨rfl, dh_X8_most⟩ ⟨Nat.le_of_ble_eq_true rfl, Nat.le_of_ble_eq_true rfl⟩) hK hN hZ hP (hP.sub [0] rfl) (va_recv (q := (RX8, TX8, 38)) hK hP (ci := 8) (q0 := 0) rfl rfl) rfl hl.1 rfl (Nat.le_of_ble_eq_true rfl) dX8_isAsked_17 ⟨Nat.le_of_ble_eq_true rfl, Nat.le_of_ble_eq_true rfl⟩ (fun r_3 hr_3 => ?_)
      obtain ⟨g_4, g_5, hsr_3_0⟩ := hr_3
      refine lv_icmp_gt (tgt := 27) hx hb dX8_isAsked_20 (by decide) (fun c_6 => ?_) (fun c_6 => ?_)
      · have fc_6 : r_3.toInt < v.toInt := zf_lt c_6 rfl rfl
        refine lv_iconst (v := 0) hx hb dX8_isAsked_27 (by decide) ?_
        exact W.zret (v := 0) hx hb hr (by decide) (fun t ht hW => ⟨0, rfl, ⟨by decide, by decide, (show ((0 : Int32).toInt = 1 ↔ (0 ≤ v.toInt ∧ v.toInt ≤ nte.toInt)) from by (have k9 : (0 : Int32).toInt = 0 := (by decide); omega))⟩, ht⟩) (fun q hq => by cases hq) dX8_isAsked_28
      · have fc_6 : v.toInt ≤ r_3.toInt := zf_nlt c_6 rfl rfl
        refine lv_iconst (v := 1) hx hb dX8_isAsked_23 (by decide) ?_
        refine lv_goto (tgt := 28) hx hb dX8_isAsked_24 (by decide) ?_
        exact W.zret (v := 1) hx hb hr (by decide) (fun t ht hW => ⟨1, rfl, ⟨by decide, by decide, (show ((1 : Int32).toInt = 1 ↔ (0 ≤ v.toInt ∧ v.toInt ≤ nte.toInt)) from by (have k9 : (1 : Int32).toInt = 1 := (by decide); omega))⟩, ht⟩) (fun q hq => by cases hq) dX8_isAsked_28
  · exact absurd c_1 (by decide)
set_option maxHeartbeats 4000000 in
set_option maxRecDepth 100000 in
theorem c_F_M_isSo_0_0 (l : Launch) (D : va_G) (cI cJ cZ cP cS : ClassId) (po : zPool) (m0 mrf mki mpa mta mla msl mco mhe mso msi msh mce mca mwo mnu mte mwa mke mma mth mtr : Nat) (npu nte nat_ nde nto nse nhu nga nsd nfa nba npl nen nnu nwr nra nik : Int32) (hy0 : 0 ≤ npu.toInt) (hy1 : npu.toInt ≤ 8) (hy2 : 4 ≤ nte.toInt) (hy3 : nte.toInt ≤ 40) (hy4 : 0 ≤ nat_.toInt) (hy5 : nat_.toInt ≤ 40) (hy6 : 0 ≤ nde.toInt) (hy7 : nde.toInt ≤ 24) (hy8 : 0 ≤ nhu.toInt) (hy9 : nhu.toInt ≤ 9) (hy10 : 0 ≤ nra.toInt) (hy11 : nra.toInt ≤ 2000) (hy12 : 0 ≤ nik.toInt) (hy13 : nik.toInt ≤ 1) (hy14 : 0 ≤ nnu.toInt) (hy15 : nnu.toInt ≤ 999) : Met l yX8_isSo wsX8_isSo ({ frames := 0, cells := 0, slots := 0, locals := 0 }) (va_Pc [.ref m0, .int 0, .int 0] (zR D (zKT cI cJ cZ cP cS) po [(zMO m0 npu nte nat_ nde nto nse nhu nga nsd nfa mrf mki mpa mta mla msl mco mhe mso msi msh mce mca mwo mnu mte nba npl nen nnu nwr mwa mke mma mth mtr nra nik)])) (vp_Si (fun r => 0 ≤ r.toInt ∧ r.toInt ≤ 1 ∧ ((r.toInt = 1 ↔ (4 ≤ nnu.toInt ∧ nnu.toInt ≤ 40))))) 0 0 (fun _ => False) := by
  refine Met.ofW (cc := cX8_isSo) (maxL := 3) (ret := (some .boolean)) (by decide) rfl ?_
  intro p e s m args below meth c s₁ B hml hv
  obtain ⟨rfl, hP, hK, hN, hZ⟩ := hv
  have hx := B.exec
  have hb := B.bytes
  have hr := B.returns
  have hts := atoms_spec (ws := wsX8_isSo) B.pre
  have hown : s.vm.findClass RX8 = some m.cls := findClass_of_methodNamed B.named
  have hlocks := B.notSynchronized
  have hl := lv_entry ([.ref m0, .int 0, .int 0]) (n := 3) (Nat.le_of_ble_eq_true rfl)
  rw [lg_entry_eq]
  generalize (lg_sl ([.ref m0, .int 0, .int 0]) ++ List.replicate (3 - (lg_sl ([.ref m0, .int 0, .int 0])).length) Slot.unset).toArray = ls at hl ⊢
  replace hl : lv_has ls 3 [(0, .ref m0), (1, .int 0), (2, .int 0)] := hl
  refine lv_iload_n hx hb dX8_isSo_0 rfl (lv_at hl 1 rfl) ?_
  refine lv_tableIn (tgt := 56) hx hb dX8_isSo_1 (by decide) (by decide) rfl (by decide) ?_
  refine lv_aload_n hx hb dX8_isSo_56 rfl (lv_at hl 0 rfl) ?_
  refine va_get (D := D) (ci := 8) (v := .int nnu) (C := RX8) (T := TX8) (N := 38) hx hb hts hi_X8_isSo_8 hown hK hP 0 rfl rfl 29 (by decide) (hts (.fieldLink RX8 161 "TheLiningsInItModel" "number" "I") (List.mem_of_getElem? (i := 1) rfl)) (fun _ h9 => h9) rfl dX8_isSo_57 ?_
  refine lv_iconst (v := 4) hx hb dX8_isSo_60 (by decide) ?_
  refine lv_icmp_lt (tgt := 77) hx hb dX8_isSo_61 (by decide) (fun c_1 => ?_) (fun c_1 => ?_)
  · have fc_1 : nnu.toInt < 4 := zf_lt c_1 rfl (by decide)
    refine lv_iconst (v := 0) hx hb dX8_isSo_77 (by decide) ?_
    exact W.zret (v := 0) hx hb hr (by decide) (fun t ht hW => ⟨0, rfl, ⟨by decide, by decide, (show ((0 : Int32).toInt = 1 ↔ (4 ≤ nnu.toInt ∧ nnu.toInt ≤ 40)) from by (have k9 : (0 : Int32).toInt = 0 := (by decide); omega))⟩, ht⟩) (fun q hq => by cases hq) dX8_isSo_78
  · have fc_1 : 4 ≤ nnu.toInt := zf_nlt c_1 rfl (by decide)
    refine lv_aload_n hx hb dX8_isSo_64 rfl (lv_at hl 0 rfl) ?_
    refine va_get (D := D) (ci := 8) (v := .int nnu) (C := RX8) (T := TX8) (N := 38) hx hb hts hi_X8_isSo_8 hown hK hP 0 rfl rfl 29 (by decide) (hts (.fieldLink RX8 161 "TheLiningsInItModel" "number" "I") (List.mem_of_getElem? (i := 1) rfl)) (fun _ h9 => h9) rfl dX8_isSo_65 ?_
    refine lv_bipush (v := 40) hx hb dX8_isSo_68 (by decide) ?_
    refine lv_icmp_gt (tgt := 77) hx hb dX8_isSo_70 (by decide) (fun c_2 => ?_) (fun c_2 => ?_)
    · have fc_2 : 40 < nnu.toInt := zf_lt c_2 (by decide) rfl
      refine lv_iconst (v := 0) hx hb dX8_isSo_77 (by decide) ?_
      exact W.zret (v := 0) hx hb hr (by decide) (fun t ht hW => ⟨0, rfl, ⟨by decide, by decide, (show ((0 : Int32).toInt = 1 ↔ (4 ≤ nnu.toInt ∧ nnu.toInt ≤ 40)) from by (have k9 : (0 : Int32).toInt = 0 := (by decide); omega))⟩, ht⟩) (fun q hq => by cases hq) dX8_isSo_78
    · have fc_2 : nnu.toInt ≤ 40 := zf_nlt c_2 (by decide) rfl
      refine lv_iconst (v := 1) hx hb dX8_isSo_73 (by decide) ?_
      refine lv_goto (tgt := 78) hx hb dX8_isSo_74 (by decide) ?_
      exact W.zret (v := 1) hx hb hr (by decide) (fun t ht hW => ⟨1, rfl, ⟨by decide, by decide, (show ((1 : Int32).toInt = 1 ↔ (4 ≤ nnu.toInt ∧ nnu.toInt ≤ 40)) from by (have k9 : (1 : Int32).toInt = 1 := (by decide); omega))⟩, ht⟩) (fun q hq => by cases hq) dX8_isSo_78
set_option maxHeartbeats 4000000 in
set_option maxRecDepth 100000 in
theorem c_F_M_isSo_1_0 (l : Launch) (D : va_G) (cI cJ cZ cP cS : ClassId) (po : zPool) (m0 mrf mki mpa mta mla msl mco mhe mso msi msh mce mca mwo mnu mte mwa mke mma mth mtr : Nat) (npu nte nat_ nde nto nse nhu nga nsd nfa nba npl nen nnu nwr nra nik : Int32) (hy0 : 0 ≤ npu.toInt) (hy1 : npu.toInt ≤ 8) (hy2 : 4 ≤ nte.toInt) (hy3 : nte.toInt ≤ 40) (hy4 : 0 ≤ nat_.toInt) (hy5 : nat_.toInt ≤ 40) (hy6 : 0 ≤ nde.toInt) (hy7 : nde.toInt ≤ 24) (hy8 : 0 ≤ nhu.toInt) (hy9 : nhu.toInt ≤ 9) (hy10 : 0 ≤ nra.toInt) (hy11 : nra.toInt ≤ 2000) (hy12 : 0 ≤ nik.toInt) (hy13 : nik.toInt ≤ 1) (hy14 : 0 ≤ nnu.toInt) (hy15 : nnu.toInt ≤ 999) : Met l yX8_isSo wsX8_isSo ({ frames := 0, cells := 0, slots := 0, locals := 0 }) (va_Pc [.ref m0, .int 1, .int 0] (zR D (zKT cI cJ cZ cP cS) po [(zMO m0 npu nte nat_ nde nto nse nhu nga nsd nfa mrf mki mpa mta mla msl mco mhe mso msi msh mce mca mwo mnu mte nba npl nen nnu nwr mwa mke mma mth mtr nra nik)])) (vp_Si (fun r => 0 ≤ r.toInt ∧ r.toInt ≤ 1 ∧ ((r.toInt = 1 ↔ (0 ≤ nnu.toInt ∧ nnu.toInt ≤ nte.toInt - 1))))) 0 0 (fun _ => False) := by
  refine Met.ofW (cc := cX8_isSo) (maxL := 3) (ret := (some .boolean)) (by decide) rfl ?_
  intro p e s m args below meth c s₁ B hml hv
  obtain ⟨rfl, hP, hK, hN, hZ⟩ := hv
  have hx := B.exec
  have hb := B.bytes
  have hr := B.returns
  have hts := atoms_spec (ws := wsX8_isSo) B.pre
  have hown : s.vm.findClass RX8 = some m.cls := findClass_of_methodNamed B.named
  have hlocks := B.notSynchronized
  have hl := lv_entry ([.ref m0, .int 1, .int 0]) (n := 3) (Nat.le_of_ble_eq_true rfl)
  rw [lg_entry_eq]
  generalize (lg_sl ([.ref m0, .int 1, .int 0]) ++ List.replicate (3 - (lg_sl ([.ref m0, .int 1, .int 0])).length) Slot.unset).toArray = ls at hl ⊢
  replace hl : lv_has ls 3 [(0, .ref m0), (1, .int 1), (2, .int 0)] := hl
  refine lv_iload_n hx hb dX8_isSo_0 rfl (lv_at hl 1 rfl) ?_
  refine lv_tableIn (tgt := 79) hx hb dX8_isSo_1 (by decide) (by decide) rfl (by decide) ?_
  refine lv_aload_n hx hb dX8_isSo_79 rfl (lv_at hl 0 rfl) ?_
  refine va_get (D := D) (ci := 8) (v := .int nnu) (C := RX8) (T := TX8) (N := 38) hx hb hts hi_X8_isSo_8 hown hK hP 0 rfl rfl 29 (by decide) (hts (.fieldLink RX8 161 "TheLiningsInItModel" "number" "I") (List.mem_of_getElem? (i := 1) rfl)) (fun _ h9 => h9) rfl dX8_isSo_80 ?_
  refine lv_aload_n hx hb dX8_isSo_83 rfl (lv_at hl 0 rfl) ?_
  refine va_get (D := D) (ci := 8) (v := .int nte) (C := RX8) (T := TX8) (N := 38) hx hb hts hi_X8_isSo_8 hown hK hP 0 rfl rfl 1 (by decide) (hts (.fieldLink RX8 7 "TheLiningsInItModel" "teeth" "I") (List.mem_of_getElem? (i := 2) rfl)) (fun _ h9 => h9) rfl dX8_isSo_84 ?_
  refine lv_icmp_ge (tgt := 94) hx hb dX8_isSo_87 (by decide) (fun c_1 => ?_) (fun c_1 => ?_)
  · have fc_1 : nte.toInt ≤ nnu.toInt := zf_le c_1 rfl rfl
    refine lv_iconst (v := 0) hx hb dX8_isSo_94 (by decide) ?_
    exact W.zret (v := 0) hx hb hr (by decide) (fun t ht hW => ⟨0, rfl, ⟨by decide, by decide, (show ((0 : Int32).toInt = 1 ↔ (0 ≤ nnu.toInt ∧ nnu.toInt ≤ nte.toInt - 1)) from by (have k9 : (0 : Int32).toInt = 0 := (by decide); omega))⟩, ht⟩) (fun q hq => by cases hq) dX8_isSo_95
  · have fc_1 : nnu.toInt < nte.toInt := zf_nle c_1 rfl rfl
    refine lv_iconst (v := 1) hx hb dX8_isSo_90 (by decide) ?_
    refine lv_goto (tgt := 95) hx hb dX8_isSo_91 (by decide) ?_
    exact W.zret (v := 1) hx hb hr (by decide) (fun t ht hW => ⟨1, rfl, ⟨by decide, by decide, (show ((1 : Int32).toInt = 1 ↔ (0 ≤ nnu.toInt ∧ nnu.toInt ≤ nte.toInt - 1)) from by (have k9 : (1 : Int32).toInt = 1 := (by decide); omega))⟩, ht⟩) (fun q hq => by cases hq) dX8_isSo_95
set_option maxHeartbeats 4000000 in
set_option maxRecDepth 100000 in
theorem c_F_M_isSo_2_0 (l : Launch) (D : va_G) (cI cJ cZ cP cS : ClassId) (po : zPool) (m0 mrf mki mpa mta mla msl mco mhe mso msi msh mce mca mwo mnu mte mwa mke mma mth mtr : Nat) (npu nte nat_ nde nto nse nhu nga nsd nfa nba npl nen nnu nwr nra nik : Int32) (hy0 : 0 ≤ npu.toInt) (hy1 : npu.toInt ≤ 8) (hy2 : 4 ≤ nte.toInt) (hy3 : nte.toInt ≤ 40) (hy4 : 0 ≤ nat_.toInt) (hy5 : nat_.toInt ≤ 40) (hy6 : 0 ≤ nde.toInt) (hy7 : nde.toInt ≤ 24) (hy8 : 0 ≤ nhu.toInt) (hy9 : nhu.toInt ≤ 9) (hy10 : 0 ≤ nra.toInt) (hy11 : nra.toInt ≤ 2000) (hy12 : 0 ≤ nik.toInt) (hy13 : nik.toInt ≤ 1) (hy14 : 0 ≤ nnu.toInt) (hy15 : nnu.toInt ≤ 999) : Met l yX8_isSo wsX8_isSo ({ frames := 0, cells := 0, slots := 0, locals := 0 }) (va_Pc [.ref m0, .int 2, .int 0] (zR D (zKT cI cJ cZ cP cS) po [(zMO m0 npu nte nat_ nde nto nse nhu nga nsd nfa mrf mki mpa mta mla msl mco mhe mso msi msh mce mca mwo mnu mte nba npl nen nnu nwr mwa mke mma mth mtr nra nik)])) (vp_Si (fun r => 0 ≤ r.toInt ∧ r.toInt ≤ 1 ∧ ((r.toInt = 1 ↔ (0 ≤ nnu.toInt ∧ nnu.toInt ≤ nte.toInt - 1))))) 0 0 (fun _ => False) := by
  refine Met.ofW (cc := cX8_isSo) (maxL := 3) (ret := (some .boolean)) (by decide) rfl ?_
  intro p e s m args below meth c s₁ B hml hv
  obtain ⟨rfl, hP, hK, hN, hZ⟩ := hv
  have hx := B.exec
  have hb := B.bytes
  have hr := B.returns
  have hts := atoms_spec (ws := wsX8_isSo) B.pre
  have hown : s.vm.findClass RX8 = some m.cls := findClass_of_methodNamed B.named
  have hlocks := B.notSynchronized
  have hl := lv_entry ([.ref m0, .int 2, .int 0]) (n := 3) (Nat.le_of_ble_eq_true rfl)
  rw [lg_entry_eq]
  generalize (lg_sl ([.ref m0, .int 2, .int 0]) ++ List.replicate (3 - (lg_sl ([.ref m0, .int 2, .int 0])).length) Slot.unset).toArray = ls at hl ⊢
  replace hl : lv_has ls 3 [(0, .ref m0), (1, .int 2), (2, .int 0)] := hl
  refine lv_iload_n hx hb dX8_isSo_0 rfl (lv_at hl 1 rfl) ?_
  refine lv_tableIn (tgt := 96) hx hb dX8_isSo_1 (by decide) (by decide) rfl (by decide) ?_
  refine lv_iload_n hx hb dX8_isSo_96 rfl (lv_at hl 2 rfl) ?_
  refine lv_if_ne (tgt := 119) hx hb dX8_isSo_97 (by decide) (fun c_1 => ?_) (fun c_1 => ?_)
  · exact absurd c_1 (by decide)
  · refine lv_aload_n hx hb dX8_isSo_100 rfl (lv_at hl 0 rfl) ?_
    refine va_get (D := D) (ci := 8) (v := .int nnu) (C := RX8) (T := TX8) (N := 38) hx hb hts hi_X8_isSo_8 hown hK hP 0 rfl rfl 29 (by decide) (hts (.fieldLink RX8 161 "TheLiningsInItModel" "number" "I") (List.mem_of_getElem? (i := 1) rfl)) (fun _ h9 => h9) rfl dX8_isSo_101 ?_
    refine lv_aload_n hx hb dX8_isSo_104 rfl (lv_at hl 0 rfl) ?_
    refine va_get (D := D) (ci := 8) (v := .int nte) (C := RX8) (T := TX8) (N := 38) hx hb hts hi_X8_isSo_8 hown hK hP 0 rfl rfl 1 (by decide) (hts (.fieldLink RX8 7 "TheLiningsInItModel" "teeth" "I") (List.mem_of_getElem? (i := 2) rfl)) (fun _ h9 => h9) rfl dX8_isSo_105 ?_
    refine lv_icmp_ge (tgt := 115) hx hb dX8_isSo_108 (by decide) (fun c_2 => ?_) (fun c_2 => ?_)
    · have fc_2 : nte.toInt ≤ nnu.toInt := zf_le c_2 rfl rfl
      refine lv_iconst (v := 0) hx hb dX8_isSo_115 (by decide) ?_
      refine lv_goto (tgt := 133) hx hb dX8_isSo_116 (by decide) ?_
      exact W.zret (v := 0) hx hb hr (by decide) (fun t ht hW => ⟨0, rfl, ⟨by decide, by decide, (show ((0 : Int32).toInt = 1 ↔ (0 ≤ nnu.toInt ∧ nnu.toInt ≤ nte.toInt - 1)) from by (have k9 : (0 : Int32).toInt = 0 := (by decide); omega))⟩, ht⟩) (fun q hq => by cases hq) dX8_isSo_133
    · have fc_2 : nnu.toInt < nte.toInt := zf_nle c_2 rfl rfl
      refine lv_iconst (v := 1) hx hb dX8_isSo_111 (by decide) ?_
      refine lv_goto (tgt := 133) hx hb dX8_isSo_112 (by decide) ?_
      exact W.zret (v := 1) hx hb hr (by decide) (fun t ht hW => ⟨1, rfl, ⟨by decide, by decide, (show ((1 : Int32).toInt = 1 ↔ (0 ≤ nnu.toInt ∧ nnu.toInt ≤ nte.toInt - 1)) from by (have k9 : (1 : Int32).toInt = 1 := (by decide); omega))⟩, ht⟩) (fun q hq => by cases hq) dX8_isSo_133
set_option maxHeartbeats 4000000 in
set_option maxRecDepth 100000 in
theorem c_F_M_isSo_2_1 (l : Launch) (D : va_G) (cI cJ cZ cP cS : ClassId) (po : zPool) (m0 mrf mki mpa mta mla msl mco mhe mso msi msh mce mca mwo mnu mte mwa mke mma mth mtr : Nat) (npu nte nat_ nde nto nse nhu nga nsd nfa nba npl nen nnu nwr nra nik : Int32) (hy0 : 0 ≤ npu.toInt) (hy1 : npu.toInt ≤ 8) (hy2 : 4 ≤ nte.toInt) (hy3 : nte.toInt ≤ 40) (hy4 : 0 ≤ nat_.toInt) (hy5 : nat_.toInt ≤ 40) (hy6 : 0 ≤ nde.toInt) (hy7 : nde.toInt ≤ 24) (hy8 : 0 ≤ nhu.toInt) (hy9 : nhu.toInt ≤ 9) (hy10 : 0 ≤ nra.toInt) (hy11 : nra.toInt ≤ 2000) (hy12 : 0 ≤ nik.toInt) (hy13 : nik.toInt ≤ 1) (hy14 : 0 ≤ nnu.toInt) (hy15 : nnu.toInt ≤ 999) : Met l yX8_isSo wsX8_isSo ({ frames := 0, cells := 0, slots := 0, locals := 0 }) (va_Pc [.ref m0, .int 2, .int 1] (zR D (zKT cI cJ cZ cP cS) po [(zMO m0 npu nte nat_ nde nto nse nhu nga nsd nfa mrf mki mpa mta mla msl mco mhe mso msi msh mce mca mwo mnu mte nba npl nen nnu nwr mwa mke mma mth mtr nra nik)])) (vp_Si (fun r => 0 ≤ r.toInt ∧ r.toInt ≤ 1 ∧ ((r.toInt = 1 ↔ (0 ≤ nnu.toInt ∧ nnu.toInt ≤ 9))))) 0 0 (fun _ => False) := by
  refine Met.ofW (cc := cX8_isSo) (maxL := 3) (ret := (some .boolean)) (by decide) rfl ?_
  intro p e s m args below meth c s₁ B hml hv
  obtain ⟨rfl, hP, hK, hN, hZ⟩ := hv
  have hx := B.exec
  have hb := B.bytes
  have hr := B.returns
  have hts := atoms_spec (ws := wsX8_isSo) B.pre
  have hown : s.vm.findClass RX8 = some m.cls := findClass_of_methodNamed B.named
  have hlocks := B.notSynchronized
  have hl := lv_entry ([.ref m0, .int 2, .int 1]) (n := 3) (Nat.le_of_ble_eq_true rfl)
  rw [lg_entry_eq]
  generalize (lg_sl ([.ref m0, .int 2, .int 1]) ++ List.replicate (3 - (lg_sl ([.ref m0, .int 2, .int 1])).length) Slot.unset).toArray = ls at hl ⊢
  replace hl : lv_has ls 3 [(0, .ref m0), (1, .int 2), (2, .int 1)] := hl
  refine lv_iload_n hx hb dX8_isSo_0 rfl (lv_at hl 1 rfl) ?_
  refine lv_tableIn (tgt := 96) hx hb dX8_isSo_1 (by decide) (by decide) rfl (by decide) ?_
  refine lv_iload_n hx hb dX8_isSo_96 rfl (lv_at hl 2 rfl) ?_
  refine lv_if_ne (tgt := 119) hx hb dX8_isSo_97 (by decide) (fun c_1 => ?_) (fun c_1 => ?_)
  · refine lv_aload_n hx hb dX8_isSo_119 rfl (lv_at hl 0 rfl) ?_
    refine va_get (D := D) (ci := 8) (v := .int nnu) (C := RX8) (T := TX8) (N := 38) hx hb hts hi_X8_isSo_8 hown hK hP 0 rfl rfl 29 (by decide) (hts (.fieldLink RX8 161 "TheLiningsInItModel" "number" "I") (List.mem_of_getElem? (i := 1) rfl)) (fun _ h9 => h9) rfl dX8_isSo_120 ?_
    refine lv_bipush (v := 9) hx hb dX8_isSo_123 (by decide) ?_
    refine lv_icmp_gt (tgt := 132) hx hb dX8_isSo_125 (by decide) (fun c_2 => ?_) (fun c_2 => ?_)
    · have fc_2 : 9 < nnu.toInt := zf_lt c_2 (by decide) rfl
      refine lv_iconst (v := 0) hx hb dX8_isSo_132 (by decide) ?_
      exact W.zret (v := 0) hx hb hr (by decide) (fun t ht hW => ⟨0, rfl, ⟨by decide, by decide, (show ((0 : Int32).toInt = 1 ↔ (0 ≤ nnu.toInt ∧ nnu.toInt ≤ 9)) from by (have k9 : (0 : Int32).toInt = 0 := (by decide); omega))⟩, ht⟩) (fun q hq => by cases hq) dX8_isSo_133
    · have fc_2 : nnu.toInt ≤ 9 := zf_nlt c_2 (by decide) rfl
      refine lv_iconst (v := 1) hx hb dX8_isSo_128 (by decide) ?_
      refine lv_goto (tgt := 133) hx hb dX8_isSo_129 (by decide) ?_
      exact W.zret (v := 1) hx hb hr (by decide) (fun t ht hW => ⟨1, rfl, ⟨by decide, by decide, (show ((1 : Int32).toInt = 1 ↔ (0 ≤ nnu.toInt ∧ nnu.toInt ≤ 9)) from by (have k9 : (1 : Int32).toInt = 1 := (by decide); omega))⟩, ht⟩) (fun q hq => by cases hq) dX8_isSo_133
  · exact absurd c_1 (by decide)
set_option maxHeartbeats 4000000 in
set_option maxRecDepth 100000 in
theorem c_F_M_isSo_3_0 (l : Launch) (D : va_G) (cI cJ cZ cP cS : ClassId) (po : zPool) (m0 mrf mki mpa mta mla msl mco mhe mso msi msh mce mca mwo mnu mte mwa mke mma mth mtr : Nat) (npu nte nat_ nde nto nse nhu nga nsd nfa nba npl nen nnu nwr nra nik : Int32) (hy0 : 0 ≤ npu.toInt) (hy1 : npu.toInt ≤ 8) (hy2 : 4 ≤ nte.toInt) (hy3 : nte.toInt ≤ 40) (hy4 : 0 ≤ nat_.toInt) (hy5 : nat_.toInt ≤ 40) (hy6 : 0 ≤ nde.toInt) (hy7 : nde.toInt ≤ 24) (hy8 : 0 ≤ nhu.toInt) (hy9 : nhu.toInt ≤ 9) (hy10 : 0 ≤ nra.toInt) (hy11 : nra.toInt ≤ 2000) (hy12 : 0 ≤ nik.toInt) (hy13 : nik.toInt ≤ 1) (hy14 : 0 ≤ nnu.toInt) (hy15 : nnu.toInt ≤ 999) : Met l yX8_isSo wsX8_isSo ({ frames := 0, cells := 0, slots := 0, locals := 0 }) (va_Pc [.ref m0, .int 3, .int 0] (zR D (zKT cI cJ cZ cP cS) po [(zMO m0 npu nte nat_ nde nto nse nhu nga nsd nfa mrf mki mpa mta mla msl mco mhe mso msi msh mce mca mwo mnu mte nba npl nen nnu nwr mwa mke mma mth mtr nra nik)])) (vp_Si (fun r => 0 ≤ r.toInt ∧ r.toInt ≤ 1 ∧ ((r.toInt = 1 ↔ (0 ≤ nnu.toInt ∧ nnu.toInt ≤ 6))))) 0 0 (fun _ => False) := by
  refine Met.ofW (cc := cX8_isSo) (maxL := 3) (ret := (some .boolean)) (by decide) rfl ?_
  intro p e s m args below meth c s₁ B hml hv
  obtain ⟨rfl, hP, hK, hN, hZ⟩ := hv
  have hx := B.exec
  have hb := B.bytes
  have hr := B.returns
  have hts := atoms_spec (ws := wsX8_isSo) B.pre
  have hown : s.vm.findClass RX8 = some m.cls := findClass_of_methodNamed B.named
  have hlocks := B.notSynchronized
  have hl := lv_entry ([.ref m0, .int 3, .int 0]) (n := 3) (Nat.le_of_ble_eq_true rfl)
  rw [lg_entry_eq]
  generalize (lg_sl ([.ref m0, .int 3, .int 0]) ++ List.replicate (3 - (lg_sl ([.ref m0, .int 3, .int 0])).length) Slot.unset).toArray = ls at hl ⊢
  replace hl : lv_has ls 3 [(0, .ref m0), (1, .int 3), (2, .int 0)] := hl
  refine lv_iload_n hx hb dX8_isSo_0 rfl (lv_at hl 1 rfl) ?_
  refine lv_tableIn (tgt := 134) hx hb dX8_isSo_1 (by decide) (by decide) rfl (by decide) ?_
  refine lv_iload_n hx hb dX8_isSo_134 rfl (lv_at hl 2 rfl) ?_
  refine lv_if_ne (tgt := 155) hx hb dX8_isSo_135 (by decide) (fun c_1 => ?_) (fun c_1 => ?_)
  · exact absurd c_1 (by decide)
  · refine lv_aload_n hx hb dX8_isSo_138 rfl (lv_at hl 0 rfl) ?_
    refine va_get (D := D) (ci := 8) (v := .int nnu) (C := RX8) (T := TX8) (N := 38) hx hb hts hi_X8_isSo_8 hown hK hP 0 rfl rfl 29 (by decide) (hts (.fieldLink RX8 161 "TheLiningsInItModel" "number" "I") (List.mem_of_getElem? (i := 1) rfl)) (fun _ h9 => h9) rfl dX8_isSo_139 ?_
    refine lv_bipush (v := 6) hx hb dX8_isSo_142 (by decide) ?_
    refine lv_icmp_gt (tgt := 151) hx hb dX8_isSo_144 (by decide) (fun c_2 => ?_) (fun c_2 => ?_)
    · have fc_2 : 6 < nnu.toInt := zf_lt c_2 (by decide) rfl
      refine lv_iconst (v := 0) hx hb dX8_isSo_151 (by decide) ?_
      refine lv_goto (tgt := 199) hx hb dX8_isSo_152 (by decide) ?_
      exact W.zret (v := 0) hx hb hr (by decide) (fun t ht hW => ⟨0, rfl, ⟨by decide, by decide, (show ((0 : Int32).toInt = 1 ↔ (0 ≤ nnu.toInt ∧ nnu.toInt ≤ 6)) from by (have k9 : (0 : Int32).toInt = 0 := (by decide); omega))⟩, ht⟩) (fun q hq => by cases hq) dX8_isSo_199
    · have fc_2 : nnu.toInt ≤ 6 := zf_nlt c_2 (by decide) rfl
      refine lv_iconst (v := 1) hx hb dX8_isSo_147 (by decide) ?_
      refine lv_goto (tgt := 199) hx hb dX8_isSo_148 (by decide) ?_
      exact W.zret (v := 1) hx hb hr (by decide) (fun t ht hW => ⟨1, rfl, ⟨by decide, by decide, (show ((1 : Int32).toInt = 1 ↔ (0 ≤ nnu.toInt ∧ nnu.toInt ≤ 6)) from by (have k9 : (1 : Int32).toInt = 1 := (by decide); omega))⟩, ht⟩) (fun q hq => by cases hq) dX8_isSo_199
set_option maxHeartbeats 4000000 in
set_option maxRecDepth 100000 in
theorem c_F_M_isSo_3_1 (l : Launch) (D : va_G) (cI cJ cZ cP cS : ClassId) (po : zPool) (m0 mrf mki mpa mta mla msl mco mhe mso msi msh mce mca mwo mnu mte mwa mke mma mth mtr : Nat) (npu nte nat_ nde nto nse nhu nga nsd nfa nba npl nen nnu nwr nra nik : Int32) (hy0 : 0 ≤ npu.toInt) (hy1 : npu.toInt ≤ 8) (hy2 : 4 ≤ nte.toInt) (hy3 : nte.toInt ≤ 40) (hy4 : 0 ≤ nat_.toInt) (hy5 : nat_.toInt ≤ 40) (hy6 : 0 ≤ nde.toInt) (hy7 : nde.toInt ≤ 24) (hy8 : 0 ≤ nhu.toInt) (hy9 : nhu.toInt ≤ 9) (hy10 : 0 ≤ nra.toInt) (hy11 : nra.toInt ≤ 2000) (hy12 : 0 ≤ nik.toInt) (hy13 : nik.toInt ≤ 1) (hy14 : 0 ≤ nnu.toInt) (hy15 : nnu.toInt ≤ 999) : Met l yX8_isSo wsX8_isSo ({ frames := 0, cells := 0, slots := 0, locals := 0 }) (va_Pc [.ref m0, .int 3, .int 1] (zR D (zKT cI cJ cZ cP cS) po [(zMO m0 npu nte nat_ nde nto nse nhu nga nsd nfa mrf mki mpa mta mla msl mco mhe mso msi msh mce mca mwo mnu mte nba npl nen nnu nwr mwa mke mma mth mtr nra nik)])) (vp_Si (fun r => 0 ≤ r.toInt ∧ r.toInt ≤ 1 ∧ ((r.toInt = 1 ↔ (0 ≤ nnu.toInt ∧ nnu.toInt ≤ 9))))) 0 0 (fun _ => False) := by
  refine Met.ofW (cc := cX8_isSo) (maxL := 3) (ret := (some .boolean)) (by decide) rfl ?_
  intro p e s m args below meth c s₁ B hml hv
  obtain ⟨rfl, hP, hK, hN, hZ⟩ := hv
  have hx := B.exec
  have hb := B.bytes
  have hr := B.returns
  have hts := atoms_spec (ws := wsX8_isSo) B.pre
  have hown : s.vm.findClass RX8 = some m.cls := findClass_of_methodNamed B.named
  have hlocks := B.notSynchronized
  have hl := lv_entry ([.ref m0, .int 3, .int 1]) (n := 3) (Nat.le_of_ble_eq_true rfl)
  rw [lg_entry_eq]
  generalize (lg_sl ([.ref m0, .int 3, .int 1]) ++ List.replicate (3 - (lg_sl ([.ref m0, .int 3, .int 1])).length) Slot.unset).toArray = ls at hl ⊢
  replace hl : lv_has ls 3 [(0, .ref m0), (1, .int 3), (2, .int 1)] := hl
  refine lv_iload_n hx hb dX8_isSo_0 rfl (lv_at hl 1 rfl) ?_
  refine lv_tableIn (tgt := 134) hx hb dX8_isSo_1 (by decide) (by decide) rfl (by decide) ?_
  refine lv_iload_n hx hb dX8_isSo_134 rfl (lv_at hl 2 rfl) ?_
  refine lv_if_ne (tgt := 155) hx hb dX8_isSo_135 (by decide) (fun c_1 => ?_) (fun c_1 => ?_)
  · refine lv_iload_n hx hb dX8_isSo_155 rfl (lv_at hl 2 rfl) ?_
    refine lv_iconst (v := 1) hx hb dX8_isSo_156 (by decide) ?_
    refine lv_icmp_ne (tgt := 177) hx hb dX8_isSo_157 (by decide) (fun c_2 => ?_) (fun c_2 => ?_)
    · exact absurd c_2 (by decide)
    · refine lv_aload_n hx hb dX8_isSo_160 rfl (lv_at hl 0 rfl) ?_
      refine va_get (D := D) (ci := 8) (v := .int nnu) (C := RX8) (T := TX8) (N := 38) hx hb hts hi_X8_isSo_8 hown hK hP 0 rfl rfl 29 (by decide) (hts (.fieldLink RX8 161 "TheLiningsInItModel" "number" "I") (List.mem_of_getElem? (i := 1) rfl)) (fun _ h9 => h9) rfl dX8_isSo_161 ?_
      refine lv_bipush (v := 9) hx hb dX8_isSo_164 (by decide) ?_
      refine lv_icmp_gt (tgt := 173) hx hb dX8_isSo_166 (by decide) (fun c_3 => ?_) (fun c_3 => ?_)
      · have fc_3 : 9 < nnu.toInt := zf_lt c_3 (by decide) rfl
        refine lv_iconst (v := 0) hx hb dX8_isSo_173 (by decide) ?_
        refine lv_goto (tgt := 199) hx hb dX8_isSo_174 (by decide) ?_
        exact W.zret (v := 0) hx hb hr (by decide) (fun t ht hW => ⟨0, rfl, ⟨by decide, by decide, (show ((0 : Int32).toInt = 1 ↔ (0 ≤ nnu.toInt ∧ nnu.toInt ≤ 9)) from by (have k9 : (0 : Int32).toInt = 0 := (by decide); omega))⟩, ht⟩) (fun q hq => by cases hq) dX8_isSo_199
      · have fc_3 : nnu.toInt ≤ 9 := zf_nlt c_3 (by decide) rfl
        refine lv_iconst (v := 1) hx hb dX8_isSo_169 (by decide) ?_
        refine lv_goto (tgt := 199) hx hb dX8_isSo_170 (by decide) ?_
        exact W.zret (v := 1) hx hb hr (by decide) (fun t ht hW => ⟨1, rfl, ⟨by decide, by decide, (show ((1 : Int32).toInt = 1 ↔ (0 ≤ nnu.toInt ∧ nnu.toInt ≤ 9)) from by (have k9 : (1 : Int32).toInt = 1 := (by decide); omega))⟩, ht⟩) (fun q hq => by cases hq) dX8_isSo_199
  · exact absurd c_1 (by decide)
set_option maxHeartbeats 4000000 in
set_option maxRecDepth 100000 in
theorem c_F_M_isSo_3_2 (l : Launch) (D : va_G) (cI cJ cZ cP cS : ClassId) (po : zPool) (m0 mrf mki mpa mta mla msl mco mhe mso msi msh mce mca mwo mnu mte mwa mke mma mth mtr : Nat) (npu nte nat_ nde nto nse nhu nga nsd nfa nba npl nen nnu nwr nra nik : Int32) (hy0 : 0 ≤ npu.toInt) (hy1 : npu.toInt ≤ 8) (hy2 : 4 ≤ nte.toInt) (hy3 : nte.toInt ≤ 40) (hy4 : 0 ≤ nat_.toInt) (hy5 : nat_.toInt ≤ 40) (hy6 : 0 ≤ nde.toInt) (hy7 : nde.toInt ≤ 24) (hy8 : 0 ≤ nhu.toInt) (hy9 : nhu.toInt ≤ 9) (hy10 : 0 ≤ nra.toInt) (hy11 : nra.toInt ≤ 2000) (hy12 : 0 ≤ nik.toInt) (hy13 : nik.toInt ≤ 1) (hy14 : 0 ≤ nnu.toInt) (hy15 : nnu.toInt ≤ 999) : Met l yX8_isSo wsX8_isSo ({ frames := 0, cells := 0, slots := 0, locals := 0 }) (va_Pc [.ref m0, .int 3, .int 2] (zR D (zKT cI cJ cZ cP cS) po [(zMO m0 npu nte nat_ nde nto nse nhu nga nsd nfa mrf mki mpa mta mla msl mco mhe mso msi msh mce mca mwo mnu mte nba npl nen nnu nwr mwa mke mma mth mtr nra nik)])) (vp_Si (fun r => 0 ≤ r.toInt ∧ r.toInt ≤ 1 ∧ ((r.toInt = 1 ↔ (1 ≤ nnu.toInt ∧ nnu.toInt ≤ 60))))) 0 0 (fun _ => False) := by
  refine Met.ofW (cc := cX8_isSo) (maxL := 3) (ret := (some .boolean)) (by decide) rfl ?_
  intro p e s m args below meth c s₁ B hml hv
  obtain ⟨rfl, hP, hK, hN, hZ⟩ := hv
  have hx := B.exec
  have hb := B.bytes
  have hr := B.returns
  have hts := atoms_spec (ws := wsX8_isSo) B.pre
  have hown : s.vm.findClass RX8 = some m.cls := findClass_of_methodNamed B.named
  have hlocks := B.notSynchronized
  have hl := lv_entry ([.ref m0, .int 3, .int 2]) (n := 3) (Nat.le_of_ble_eq_true rfl)
  rw [lg_entry_eq]
  generalize (lg_sl ([.ref m0, .int 3, .int 2]) ++ List.replicate (3 - (lg_sl ([.ref m0, .int 3, .int 2])).length) Slot.unset).toArray = ls at hl ⊢
  replace hl : lv_has ls 3 [(0, .ref m0), (1, .int 3), (2, .int 2)] := hl
  refine lv_iload_n hx hb dX8_isSo_0 rfl (lv_at hl 1 rfl) ?_
  refine lv_tableIn (tgt := 134) hx hb dX8_isSo_1 (by decide) (by decide) rfl (by decide) ?_
  refine lv_iload_n hx hb dX8_isSo_134 rfl (lv_at hl 2 rfl) ?_
  refine lv_if_ne (tgt := 155) hx hb dX8_isSo_135 (by decide) (fun c_1 => ?_) (fun c_1 => ?_)
  · refine lv_iload_n hx hb dX8_isSo_155 rfl (lv_at hl 2 rfl) ?_
    refine lv_iconst (v := 1) hx hb dX8_isSo_156 (by decide) ?_
    refine lv_icmp_ne (tgt := 177) hx hb dX8_isSo_157 (by decide) (fun c_2 => ?_) (fun c_2 => ?_)
    · refine lv_aload_n hx hb dX8_isSo_177 rfl (lv_at hl 0 rfl) ?_
      refine va_get (D := D) (ci := 8) (v := .int nnu) (C := RX8) (T := TX8) (N := 38) hx hb hts hi_X8_isSo_8 hown hK hP 0 rfl rfl 29 (by decide) (hts (.fieldLink RX8 161 "TheLiningsInItModel" "number" "I") (List.mem_of_getElem? (i := 1) rfl)) (fun _ h9 => h9) rfl dX8_isSo_178 ?_
      refine lv_iconst (v := 1) hx hb dX8_isSo_181 (by decide) ?_
      refine lv_icmp_lt (tgt := 198) hx hb dX8_isSo_182 (by decide) (fun c_3 => ?_) (fun c_3 => ?_)
      · have fc_3 : nnu.toInt < 1 := zf_lt c_3 rfl (by decide)
        refine lv_iconst (v := 0) hx hb dX8_isSo_198 (by decide) ?_
        exact W.zret (v := 0) hx hb hr (by decide) (fun t ht hW => ⟨0, rfl, ⟨by decide, by decide, (show ((0 : Int32).toInt = 1 ↔ (1 ≤ nnu.toInt ∧ nnu.toInt ≤ 60)) from by (have k9 : (0 : Int32).toInt = 0 := (by decide); omega))⟩, ht⟩) (fun q hq => by cases hq) dX8_isSo_199
      · have fc_3 : 1 ≤ nnu.toInt := zf_nlt c_3 rfl (by decide)
        refine lv_aload_n hx hb dX8_isSo_185 rfl (lv_at hl 0 rfl) ?_
        refine va_get (D := D) (ci := 8) (v := .int nnu) (C := RX8) (T := TX8) (N := 38) hx hb hts hi_X8_isSo_8 hown hK hP 0 rfl rfl 29 (by decide) (hts (.fieldLink RX8 161 "TheLiningsInItModel" "number" "I") (List.mem_of_getElem? (i := 1) rfl)) (fun _ h9 => h9) rfl dX8_isSo_186 ?_
        refine lv_bipush (v := 60) hx hb dX8_isSo_189 (by decide) ?_
        refine lv_icmp_gt (tgt := 198) hx hb dX8_isSo_191 (by decide) (fun c_4 => ?_) (fun c_4 => ?_)
        · have fc_4 : 60 < nnu.toInt := zf_lt c_4 (by decide) rfl
          refine lv_iconst (v := 0) hx hb dX8_isSo_198 (by decide) ?_
          exact W.zret (v := 0) hx hb hr (by decide) (fun t ht hW => ⟨0, rfl, ⟨by decide, by decide, (show ((0 : Int32).toInt = 1 ↔ (1 ≤ nnu.toInt ∧ nnu.toInt ≤ 60)) from by (have k9 : (0 : Int32).toInt = 0 := (by decide); omega))⟩, ht⟩) (fun q hq => by cases hq) dX8_isSo_199
        · have fc_4 : nnu.toInt ≤ 60 := zf_nlt c_4 (by decide) rfl
          refine lv_iconst (v := 1) hx hb dX8_isSo_194 (by decide) ?_
          refine lv_goto (tgt := 199) hx hb dX8_isSo_195 (by decide) ?_
          exact W.zret (v := 1) hx hb hr (by decide) (fun t ht hW => ⟨1, rfl, ⟨by decide, by decide, (show ((1 : Int32).toInt = 1 ↔ (1 ≤ nnu.toInt ∧ nnu.toInt ≤ 60)) from by (have k9 : (1 : Int32).toInt = 1 := (by decide); omega))⟩, ht⟩) (fun q hq => by cases hq) dX8_isSo_199
    · exact absurd c_2 (by decide)
  · exact absurd c_1 (by decide)
set_option maxHeartbeats 4000000 in
set_option maxRecDepth 100000 in
theorem c_F_M_isSo_8_0 (l : Launch) (D : va_G) (cI cJ cZ cP cS : ClassId) (po : zPool) (m0 mrf mki mpa mta mla msl mco mhe mso msi msh mce mca mwo mnu mte mwa mke mma mth mtr : Nat) (npu nte nat_ nde nto nse nhu nga nsd nfa nba npl nen nnu nwr nra nik : Int32) (hy0 : 0 ≤ npu.toInt) (hy1 : npu.toInt ≤ 8) (hy2 : 4 ≤ nte.toInt) (hy3 : nte.toInt ≤ 40) (hy4 : 0 ≤ nat_.toInt) (hy5 : nat_.toInt ≤ 40) (hy6 : 0 ≤ nde.toInt) (hy7 : nde.toInt ≤ 24) (hy8 : 0 ≤ nhu.toInt) (hy9 : nhu.toInt ≤ 9) (hy10 : 0 ≤ nra.toInt) (hy11 : nra.toInt ≤ 2000) (hy12 : 0 ≤ nik.toInt) (hy13 : nik.toInt ≤ 1) (hy14 : 0 ≤ nnu.toInt) (hy15 : nnu.toInt ≤ 999) : Met l yX8_isSo wsX8_isSo ({ frames := 0, cells := 0, slots := 0, locals := 0 }) (va_Pc [.ref m0, .int 8, .int 0] (zR D (zKT cI cJ cZ cP cS) po [(zMO m0 npu nte nat_ nde nto nse nhu nga nsd nfa mrf mki mpa mta mla msl mco mhe mso msi msh mce mca mwo mnu mte nba npl nen nnu nwr mwa mke mma mth mtr nra nik)])) (vp_Si (fun r => 0 ≤ r.toInt ∧ r.toInt ≤ 1 ∧ ((r.toInt = 1 ↔ (0 ≤ nnu.toInt ∧ nnu.toInt ≤ 2))))) 0 0 (fun _ => False) := by
  refine Met.ofW (cc := cX8_isSo) (maxL := 3) (ret := (some .boolean)) (by decide) rfl ?_
  intro p e s m args below meth c s₁ B hml hv
  obtain ⟨rfl, hP, hK, hN, hZ⟩ := hv
  have hx := B.exec
  have hb := B.bytes
  have hr := B.returns
  have hts := atoms_spec (ws := wsX8_isSo) B.pre
  have hown : s.vm.findClass RX8 = some m.cls := findClass_of_methodNamed B.named
  have hlocks := B.notSynchronized
  have hl := lv_entry ([.ref m0, .int 8, .int 0]) (n := 3) (Nat.le_of_ble_eq_true rfl)
  rw [lg_entry_eq]
  generalize (lg_sl ([.ref m0, .int 8, .int 0]) ++ List.replicate (3 - (lg_sl ([.ref m0, .int 8, .int 0])).length) Slot.unset).toArray = ls at hl ⊢
  replace hl : lv_has ls 3 [(0, .ref m0), (1, .int 8), (2, .int 0)] := hl
  refine lv_iload_n hx hb dX8_isSo_0 rfl (lv_at hl 1 rfl) ?_
  refine lv_tableIn (tgt := 200) hx hb dX8_isSo_1 (by decide) (by decide) rfl (by decide) ?_
  refine lv_aload_n hx hb dX8_isSo_200 rfl (lv_at hl 0 rfl) ?_
  refine va_get (D := D) (ci := 8) (v := .int nnu) (C := RX8) (T := TX8) (N := 38) hx hb hts hi_X8_isSo_8 hown hK hP 0 rfl rfl 29 (by decide) (hts (.fieldLink RX8 161 "TheLiningsInItModel" "number" "I") (List.mem_of_getElem? (i := 1) rfl)) (fun _ h9 => h9) rfl dX8_isSo_201 ?_
  refine lv_iload_n hx hb dX8_isSo_204 rfl (lv_at hl 2 rfl) ?_
  refine lv_if_ne (tgt := 212) hx hb dX8_isSo_205 (by decide) (fun c_1 => ?_) (fun c_1 => ?_)
  · exact absurd c_1 (by decide)
  · refine lv_iconst (v := 2) hx hb dX8_isSo_208 (by decide) ?_
    refine lv_goto (tgt := 214) hx hb dX8_isSo_209 (by decide) ?_
    refine lv_icmp_gt (tgt := 221) hx hb dX8_isSo_214 (by decide) (fun c_2 => ?_) (fun c_2 => ?_)
    · have fc_2 : 2 < nnu.toInt := zf_lt c_2 (by decide) rfl
      refine lv_iconst (v := 0) hx hb dX8_isSo_221 (by decide) ?_
      exact W.zret (v := 0) hx hb hr (by decide) (fun t ht hW => ⟨0, rfl, ⟨by decide, by decide, (show ((0 : Int32).toInt = 1 ↔ (0 ≤ nnu.toInt ∧ nnu.toInt ≤ 2)) from by (have k9 : (0 : Int32).toInt = 0 := (by decide); omega))⟩, ht⟩) (fun q hq => by cases hq) dX8_isSo_222
    · have fc_2 : nnu.toInt ≤ 2 := zf_nlt c_2 (by decide) rfl
      refine lv_iconst (v := 1) hx hb dX8_isSo_217 (by decide) ?_
      refine lv_goto (tgt := 222) hx hb dX8_isSo_218 (by decide) ?_
      exact W.zret (v := 1) hx hb hr (by decide) (fun t ht hW => ⟨1, rfl, ⟨by decide, by decide, (show ((1 : Int32).toInt = 1 ↔ (0 ≤ nnu.toInt ∧ nnu.toInt ≤ 2)) from by (have k9 : (1 : Int32).toInt = 1 := (by decide); omega))⟩, ht⟩) (fun q hq => by cases hq) dX8_isSo_222
set_option maxHeartbeats 4000000 in
set_option maxRecDepth 100000 in
theorem c_F_M_isSo_8_1 (l : Launch) (D : va_G) (cI cJ cZ cP cS : ClassId) (po : zPool) (m0 mrf mki mpa mta mla msl mco mhe mso msi msh mce mca mwo mnu mte mwa mke mma mth mtr : Nat) (npu nte nat_ nde nto nse nhu nga nsd nfa nba npl nen nnu nwr nra nik : Int32) (hy0 : 0 ≤ npu.toInt) (hy1 : npu.toInt ≤ 8) (hy2 : 4 ≤ nte.toInt) (hy3 : nte.toInt ≤ 40) (hy4 : 0 ≤ nat_.toInt) (hy5 : nat_.toInt ≤ 40) (hy6 : 0 ≤ nde.toInt) (hy7 : nde.toInt ≤ 24) (hy8 : 0 ≤ nhu.toInt) (hy9 : nhu.toInt ≤ 9) (hy10 : 0 ≤ nra.toInt) (hy11 : nra.toInt ≤ 2000) (hy12 : 0 ≤ nik.toInt) (hy13 : nik.toInt ≤ 1) (hy14 : 0 ≤ nnu.toInt) (hy15 : nnu.toInt ≤ 999) : Met l yX8_isSo wsX8_isSo ({ frames := 0, cells := 0, slots := 0, locals := 0 }) (va_Pc [.ref m0, .int 8, .int 1] (zR D (zKT cI cJ cZ cP cS) po [(zMO m0 npu nte nat_ nde nto nse nhu nga nsd nfa mrf mki mpa mta mla msl mco mhe mso msi msh mce mca mwo mnu mte nba npl nen nnu nwr mwa mke mma mth mtr nra nik)])) (vp_Si (fun r => 0 ≤ r.toInt ∧ r.toInt ≤ 1 ∧ ((r.toInt = 1 ↔ (0 ≤ nnu.toInt ∧ nnu.toInt ≤ 99))))) 0 0 (fun _ => False) := by
  refine Met.ofW (cc := cX8_isSo) (maxL := 3) (ret := (some .boolean)) (by decide) rfl ?_
  intro p e s m args below meth c s₁ B hml hv
  obtain ⟨rfl, hP, hK, hN, hZ⟩ := hv
  have hx := B.exec
  have hb := B.bytes
  have hr := B.returns
  have hts := atoms_spec (ws := wsX8_isSo) B.pre
  have hown : s.vm.findClass RX8 = some m.cls := findClass_of_methodNamed B.named
  have hlocks := B.notSynchronized
  have hl := lv_entry ([.ref m0, .int 8, .int 1]) (n := 3) (Nat.le_of_ble_eq_true rfl)
  rw [lg_entry_eq]
  generalize (lg_sl ([.ref m0, .int 8, .int 1]) ++ List.replicate (3 - (lg_sl ([.ref m0, .int 8, .int 1])).length) Slot.unset).toArray = ls at hl ⊢
  replace hl : lv_has ls 3 [(0, .ref m0), (1, .int 8), (2, .int 1)] := hl
  refine lv_iload_n hx hb dX8_isSo_0 rfl (lv_at hl 1 rfl) ?_
  refine lv_tableIn (tgt := 200) hx hb dX8_isSo_1 (by decide) (by decide) rfl (by decide) ?_
  refine lv_aload_n hx hb dX8_isSo_200 rfl (lv_at hl 0 rfl) ?_
  refine va_get (D := D) (ci := 8) (v := .int nnu) (C := RX8) (T := TX8) (N := 38) hx hb hts hi_X8_isSo_8 hown hK hP 0 rfl rfl 29 (by decide) (hts (.fieldLink RX8 161 "TheLiningsInItModel" "number" "I") (List.mem_of_getElem? (i := 1) rfl)) (fun _ h9 => h9) rfl dX8_isSo_201 ?_
  refine lv_iload_n hx hb dX8_isSo_204 rfl (lv_at hl 2 rfl) ?_
  refine lv_if_ne (tgt := 212) hx hb dX8_isSo_205 (by decide) (fun c_1 => ?_) (fun c_1 => ?_)
  · refine lv_bipush (v := 99) hx hb dX8_isSo_212 (by decide) ?_
    refine lv_icmp_gt (tgt := 221) hx hb dX8_isSo_214 (by decide) (fun c_2 => ?_) (fun c_2 => ?_)
    · have fc_2 : 99 < nnu.toInt := zf_lt c_2 (by decide) rfl
      refine lv_iconst (v := 0) hx hb dX8_isSo_221 (by decide) ?_
      exact W.zret (v := 0) hx hb hr (by decide) (fun t ht hW => ⟨0, rfl, ⟨by decide, by decide, (show ((0 : Int32).toInt = 1 ↔ (0 ≤ nnu.toInt ∧ nnu.toInt ≤ 99)) from by (have k9 : (0 : Int32).toInt = 0 := (by decide); omega))⟩, ht⟩) (fun q hq => by cases hq) dX8_isSo_222
    · have fc_2 : nnu.toInt ≤ 99 := zf_nlt c_2 (by decide) rfl
      refine lv_iconst (v := 1) hx hb dX8_isSo_217 (by decide) ?_
      refine lv_goto (tgt := 222) hx hb dX8_isSo_218 (by decide) ?_
      exact W.zret (v := 1) hx hb hr (by decide) (fun t ht hW => ⟨1, rfl, ⟨by decide, by decide, (show ((1 : Int32).toInt = 1 ↔ (0 ≤ nnu.toInt ∧ nnu.toInt ≤ 99)) from by (have k9 : (1 : Int32).toInt = 1 := (by decide); omega))⟩, ht⟩) (fun q hq => by cases hq) dX8_isSo_222
  · exact absurd c_1 (by decide)
set_option maxHeartbeats 4000000 in
set_option maxRecDepth 100000 in
theorem c_F_M_isSo_9_0 (l : Launch) (D : va_G) (cI cJ cZ cP cS : ClassId) (po : zPool) (m0 mrf mki mpa mta mla msl mco mhe mso msi msh mce mca mwo mnu mte mwa mke mma mth mtr : Nat) (npu nte nat_ nde nto nse nhu nga nsd nfa nba npl nen nnu nwr nra nik : Int32) (hy0 : 0 ≤ npu.toInt) (hy1 : npu.toInt ≤ 8) (hy2 : 4 ≤ nte.toInt) (hy3 : nte.toInt ≤ 40) (hy4 : 0 ≤ nat_.toInt) (hy5 : nat_.toInt ≤ 40) (hy6 : 0 ≤ nde.toInt) (hy7 : nde.toInt ≤ 24) (hy8 : 0 ≤ nhu.toInt) (hy9 : nhu.toInt ≤ 9) (hy10 : 0 ≤ nra.toInt) (hy11 : nra.toInt ≤ 2000) (hy12 : 0 ≤ nik.toInt) (hy13 : nik.toInt ≤ 1) (hy14 : 0 ≤ nnu.toInt) (hy15 : nnu.toInt ≤ 999) : Met l yX8_isSo wsX8_isSo ({ frames := 2, cells := 0, slots := 0, locals := 43 }) (va_Pc [.ref m0, .int 9, .int 0] (zR D (zKT cI cJ cZ cP cS) po [(zMO m0 npu nte nat_ nde nto nse nhu nga nsd nfa mrf mki mpa mta mla msl mco mhe mso msi msh mce mca mwo mnu mte nba npl nen nnu nwr mwa mke mma mth mtr nra nik)])) (vp_Si (fun r => 0 ≤ r.toInt ∧ r.toInt ≤ 1 ∧ ((r.toInt = 1 ↔ (0 ≤ nnu.toInt ∧ nnu.toInt ≤ nte.toInt))))) 0 0 (fun _ => False) := by
  refine Met.ofW (cc := cX8_isSo) (maxL := 3) (ret := (some .boolean)) (by decide) rfl ?_
  intro p e s m args below meth c s₁ B hml hv
  obtain ⟨rfl, hP, hK, hN, hZ⟩ := hv
  have hx := B.exec
  have hb := B.bytes
  have hr := B.returns
  have hts := atoms_spec (ws := wsX8_isSo) B.pre
  have hown : s.vm.findClass RX8 = some m.cls := findClass_of_methodNamed B.named
  have hlocks := B.notSynchronized
  have hl := lv_entry ([.ref m0, .int 9, .int 0]) (n := 3) (Nat.le_of_ble_eq_true rfl)
  rw [lg_entry_eq]
  generalize (lg_sl ([.ref m0, .int 9, .int 0]) ++ List.replicate (3 - (lg_sl ([.ref m0, .int 9, .int 0])).length) Slot.unset).toArray = ls at hl ⊢
  replace hl : lv_has ls 3 [(0, .ref m0), (1, .int 9), (2, .int 0)] := hl
  refine lv_iload_n hx hb dX8_isSo_0 rfl (lv_at hl 1 rfl) ?_
  refine lv_tableIn (tgt := 223) hx hb dX8_isSo_1 (by decide) (by decide) rfl (by decide) ?_
  refine lv_aload_n hx hb dX8_isSo_223 rfl (lv_at hl 0 rfl) ?_
  refine lv_bipush (v := 7) hx hb dX8_isSo_224 (by decide) ?_
  refine lv_aload_n hx hb dX8_isSo_226 rfl (lv_at hl 0 rfl) ?_
  refine va_get (D := D) (ci := 8) (v := .int nnu) (C := RX8) (T := TX8) (N := 38) hx hb hts hi_X8_isSo_8 hown hK hP 0 rfl rfl 29 (by decide) (hts (.fieldLink RX8 161 "TheLiningsInItModel" "number" "I") (List.mem_of_getElem? (i := 1) rfl)) (fun _ h9 => h9) rfl dX8_isSo_227 ?_
  refine zc_V (As := [.int 7, .int nnu]) (rest := []) ⟨hx, hb, hml, hown, hts⟩ (c_F_M_isAsked_7 l D cI cJ cZ cP cS po m0 mrf mki mpa mta mla msl mco mhe mso msi msh mce mca mwo mnu mte mwa mke mma mth mtr (npu) (nte) (nat_) (nde) (nto) (nse) (nhu) (nga) (nsd) (nfa) (nba) (npl) (nen) (nnu) (nwr) (nra) (nik) (nnu) hy0 hy1 hy2 hy3 hy4 hy5 hy6 hy7 hy8 hy9 hy10 hy11 hy12 hy13) (cwV 2 hts gX8_isSo_X8_isAsked rfl rfl rfl ⟨rfl, dh_X8_isAsked⟩ ⟨Nat.le_of_ble_eq_true rfl, Nat.le_of_ble_eq_true rfl⟩) hK hN hZ hP (hP.sub [0] rfl) (va_recv (q := (RX8, TX8, 38)) hK hP (ci := 8) (q0 := 0) rfl rfl) rfl hl.1 rfl (Nat.le_of_ble_eq_true rfl) dX8_isSo_230 ⟨Nat.le_of_ble_eq_true rfl, Nat.le_of_ble_eq_true rfl⟩ (fun r_1 hr_1 => ?_)
  obtain ⟨g_2, g_3, hsr_1_0⟩ := hr_1
  exact W.zret (v := r_1) hx hb hr (by rcases (show r_1.toInt = 0 ∨ r_1.toInt = 1 by omega) with h9 | h9; (rw [(zf_val h9 (by decide) : r_1 = 0)]; decide); (rw [(zf_val h9 (by decide) : r_1 = 1)]; decide)) (fun t ht hW => ⟨r_1, rfl, ⟨by omega, by omega, (show ((r_1 : Int32).toInt = 1 ↔ (0 ≤ nnu.toInt ∧ nnu.toInt ≤ nte.toInt)) from by (omega))⟩, ht⟩) (fun q hq => by cases hq) dX8_isSo_233
set_option maxHeartbeats 4000000 in
set_option maxRecDepth 100000 in
theorem c_F_M_isSo_4_0 (l : Launch) (D : va_G) (cI cJ cZ cP cS : ClassId) (po : zPool) (m0 mrf mki mpa mta mla msl mco mhe mso msi msh mce mca mwo mnu mte mwa mke mma mth mtr : Nat) (npu nte nat_ nde nto nse nhu nga nsd nfa nba npl nen nnu nwr nra nik : Int32) (hy0 : 0 ≤ npu.toInt) (hy1 : npu.toInt ≤ 8) (hy2 : 4 ≤ nte.toInt) (hy3 : nte.toInt ≤ 40) (hy4 : 0 ≤ nat_.toInt) (hy5 : nat_.toInt ≤ 40) (hy6 : 0 ≤ nde.toInt) (hy7 : nde.toInt ≤ 24) (hy8 : 0 ≤ nhu.toInt) (hy9 : nhu.toInt ≤ 9) (hy10 : 0 ≤ nra.toInt) (hy11 : nra.toInt ≤ 2000) (hy12 : 0 ≤ nik.toInt) (hy13 : nik.toInt ≤ 1) (hy14 : 0 ≤ nnu.toInt) (hy15 : nnu.toInt ≤ 999) : Met l yX8_isSo wsX8_isSo ({ frames := 2, cells := 0, slots := 0, locals := 43 }) (va_Pc [.ref m0, .int 4, .int 0] (zR D (zKT cI cJ cZ cP cS) po [(zMO m0 npu nte nat_ nde nto nse nhu nga nsd nfa mrf mki mpa mta mla msl mco mhe mso msi msh mce mca mwo mnu mte nba npl nen nnu nwr mwa mke mma mth mtr nra nik)])) (vp_Si (fun r => 0 ≤ r.toInt ∧ r.toInt ≤ 1 ∧ ((r.toInt = 1 ↔ (0 ≤ nnu.toInt ∧ nnu.toInt ≤ 24))))) 0 0 (fun _ => False) := by
  refine Met.ofW (cc := cX8_isSo) (maxL := 3) (ret := (some .boolean)) (by decide) rfl ?_
  intro p e s m args below meth c s₁ B hml hv
  obtain ⟨rfl, hP, hK, hN, hZ⟩ := hv
  have hx := B.exec
  have hb := B.bytes
  have hr := B.returns
  have hts := atoms_spec (ws := wsX8_isSo) B.pre
  have hown : s.vm.findClass RX8 = some m.cls := findClass_of_methodNamed B.named
  have hlocks := B.notSynchronized
  have hl := lv_entry ([.ref m0, .int 4, .int 0]) (n := 3) (Nat.le_of_ble_eq_true rfl)
  rw [lg_entry_eq]
  generalize (lg_sl ([.ref m0, .int 4, .int 0]) ++ List.replicate (3 - (lg_sl ([.ref m0, .int 4, .int 0])).length) Slot.unset).toArray = ls at hl ⊢
  replace hl : lv_has ls 3 [(0, .ref m0), (1, .int 4), (2, .int 0)] := hl
  refine lv_iload_n hx hb dX8_isSo_0 rfl (lv_at hl 1 rfl) ?_
  refine lv_tableIn (tgt := 234) hx hb dX8_isSo_1 (by decide) (by decide) rfl (by decide) ?_
  refine lv_aload_n hx hb dX8_isSo_234 rfl (lv_at hl 0 rfl) ?_
  refine lv_iload_n hx hb dX8_isSo_235 rfl (lv_at hl 1 rfl) ?_
  refine lv_iconst (v := 4) hx hb dX8_isSo_236 (by decide) ?_
  refine lv_isub hx hb dX8_isSo_237 ?_
  refine lv_topi (fun y_1 ey_1 => ?_)
  obtain rfl : y_1 = 0 := ey_1.trans (by decide)
  refine lv_aload_n hx hb dX8_isSo_238 rfl (lv_at hl 0 rfl) ?_
  refine va_get (D := D) (ci := 8) (v := .int nnu) (C := RX8) (T := TX8) (N := 38) hx hb hts hi_X8_isSo_8 hown hK hP 0 rfl rfl 29 (by decide) (hts (.fieldLink RX8 161 "TheLiningsInItModel" "number" "I") (List.mem_of_getElem? (i := 1) rfl)) (fun _ h9 => h9) rfl dX8_isSo_239 ?_
  refine zc_V (As := [.int 0, .int nnu]) (rest := []) ⟨hx, hb, hml, hown, hts⟩ (c_F_M_isAsked_0 l D cI cJ cZ cP cS po m0 mrf mki mpa mta mla msl mco mhe mso msi msh mce mca mwo mnu mte mwa mke mma mth mtr (npu) (nte) (nat_) (nde) (nto) (nse) (nhu) (nga) (nsd) (nfa) (nba) (npl) (nen) (nnu) (nwr) (nra) (nik) (nnu) hy0 hy1 hy2 hy3 hy4 hy5 hy6 hy7 hy8 hy9 hy10 hy11 hy12 hy13) (cwV 2 hts gX8_isSo_X8_isAsked rfl rfl rfl ⟨rfl, dh_X8_isAsked⟩ ⟨Nat.le_of_ble_eq_true rfl, Nat.le_of_ble_eq_true rfl⟩) hK hN hZ hP (hP.sub [0] rfl) (va_recv (q := (RX8, TX8, 38)) hK hP (ci := 8) (q0 := 0) rfl rfl) rfl hl.1 rfl (Nat.le_of_ble_eq_true rfl) dX8_isSo_242 ⟨Nat.le_of_ble_eq_true rfl, Nat.le_of_ble_eq_true rfl⟩ (fun r_2 hr_2 => ?_)
  obtain ⟨g_3, g_4, hsr_2_0⟩ := hr_2
  exact W.zret (v := r_2) hx hb hr (by rcases (show r_2.toInt = 0 ∨ r_2.toInt = 1 by omega) with h9 | h9; (rw [(zf_val h9 (by decide) : r_2 = 0)]; decide); (rw [(zf_val h9 (by decide) : r_2 = 1)]; decide)) (fun t ht hW => ⟨r_2, rfl, ⟨by omega, by omega, (show ((r_2 : Int32).toInt = 1 ↔ (0 ≤ nnu.toInt ∧ nnu.toInt ≤ 24)) from by (omega))⟩, ht⟩) (fun q hq => by cases hq) dX8_isSo_245
set_option maxHeartbeats 4000000 in
set_option maxRecDepth 100000 in
theorem c_F_M_isSo_5_0 (l : Launch) (D : va_G) (cI cJ cZ cP cS : ClassId) (po : zPool) (m0 mrf mki mpa mta mla msl mco mhe mso msi msh mce mca mwo mnu mte mwa mke mma mth mtr : Nat) (npu nte nat_ nde nto nse nhu nga nsd nfa nba npl nen nnu nwr nra nik : Int32) (hy0 : 0 ≤ npu.toInt) (hy1 : npu.toInt ≤ 8) (hy2 : 4 ≤ nte.toInt) (hy3 : nte.toInt ≤ 40) (hy4 : 0 ≤ nat_.toInt) (hy5 : nat_.toInt ≤ 40) (hy6 : 0 ≤ nde.toInt) (hy7 : nde.toInt ≤ 24) (hy8 : 0 ≤ nhu.toInt) (hy9 : nhu.toInt ≤ 9) (hy10 : 0 ≤ nra.toInt) (hy11 : nra.toInt ≤ 2000) (hy12 : 0 ≤ nik.toInt) (hy13 : nik.toInt ≤ 1) (hy14 : 0 ≤ nnu.toInt) (hy15 : nnu.toInt ≤ 999) : Met l yX8_isSo wsX8_isSo ({ frames := 2, cells := 0, slots := 0, locals := 43 }) (va_Pc [.ref m0, .int 5, .int 0] (zR D (zKT cI cJ cZ cP cS) po [(zMO m0 npu nte nat_ nde nto nse nhu nga nsd nfa mrf mki mpa mta mla msl mco mhe mso msi msh mce mca mwo mnu mte nba npl nen nnu nwr mwa mke mma mth mtr nra nik)])) (vp_Si (fun r => 0 ≤ r.toInt ∧ r.toInt ≤ 1 ∧ ((r.toInt = 1 ↔ (0 ≤ nnu.toInt ∧ nnu.toInt ≤ 300))))) 0 0 (fun _ => False) := by
  refine Met.ofW (cc := cX8_isSo) (maxL := 3) (ret := (some .boolean)) (by decide) rfl ?_
  intro p e s m args below meth c s₁ B hml hv
  obtain ⟨rfl, hP, hK, hN, hZ⟩ := hv
  have hx := B.exec
  have hb := B.bytes
  have hr := B.returns
  have hts := atoms_spec (ws := wsX8_isSo) B.pre
  have hown : s.vm.findClass RX8 = some m.cls := findClass_of_methodNamed B.named
  have hlocks := B.notSynchronized
  have hl := lv_entry ([.ref m0, .int 5, .int 0]) (n := 3) (Nat.le_of_ble_eq_true rfl)
  rw [lg_entry_eq]
  generalize (lg_sl ([.ref m0, .int 5, .int 0]) ++ List.replicate (3 - (lg_sl ([.ref m0, .int 5, .int 0])).length) Slot.unset).toArray = ls at hl ⊢
  replace hl : lv_has ls 3 [(0, .ref m0), (1, .int 5), (2, .int 0)] := hl
  refine lv_iload_n hx hb dX8_isSo_0 rfl (lv_at hl 1 rfl) ?_
  refine lv_tableIn (tgt := 234) hx hb dX8_isSo_1 (by decide) (by decide) rfl (by decide) ?_
  refine lv_aload_n hx hb dX8_isSo_234 rfl (lv_at hl 0 rfl) ?_
  refine lv_iload_n hx hb dX8_isSo_235 rfl (lv_at hl 1 rfl) ?_
  refine lv_iconst (v := 4) hx hb dX8_isSo_236 (by decide) ?_
  refine lv_isub hx hb dX8_isSo_237 ?_
  refine lv_topi (fun y_1 ey_1 => ?_)
  obtain rfl : y_1 = 1 := ey_1.trans (by decide)
  refine lv_aload_n hx hb dX8_isSo_238 rfl (lv_at hl 0 rfl) ?_
  refine va_get (D := D) (ci := 8) (v := .int nnu) (C := RX8) (T := TX8) (N := 38) hx hb hts hi_X8_isSo_8 hown hK hP 0 rfl rfl 29 (by decide) (hts (.fieldLink RX8 161 "TheLiningsInItModel" "number" "I") (List.mem_of_getElem? (i := 1) rfl)) (fun _ h9 => h9) rfl dX8_isSo_239 ?_
  refine zc_V (As := [.int 1, .int nnu]) (rest := []) ⟨hx, hb, hml, hown, hts⟩ (c_F_M_isAsked_1 l D cI cJ cZ cP cS po m0 mrf mki mpa mta mla msl mco mhe mso msi msh mce mca mwo mnu mte mwa mke mma mth mtr (npu) (nte) (nat_) (nde) (nto) (nse) (nhu) (nga) (nsd) (nfa) (nba) (npl) (nen) (nnu) (nwr) (nra) (nik) (nnu) hy0 hy1 hy2 hy3 hy4 hy5 hy6 hy7 hy8 hy9 hy10 hy11 hy12 hy13) (cwV 2 hts gX8_isSo_X8_isAsked rfl rfl rfl ⟨rfl, dh_X8_isAsked⟩ ⟨Nat.le_of_ble_eq_true rfl, Nat.le_of_ble_eq_true rfl⟩) hK hN hZ hP (hP.sub [0] rfl) (va_recv (q := (RX8, TX8, 38)) hK hP (ci := 8) (q0 := 0) rfl rfl) rfl hl.1 rfl (Nat.le_of_ble_eq_true rfl) dX8_isSo_242 ⟨Nat.le_of_ble_eq_true rfl, Nat.le_of_ble_eq_true rfl⟩ (fun r_2 hr_2 => ?_)
  obtain ⟨g_3, g_4, hsr_2_0⟩ := hr_2
  exact W.zret (v := r_2) hx hb hr (by rcases (show r_2.toInt = 0 ∨ r_2.toInt = 1 by omega) with h9 | h9; (rw [(zf_val h9 (by decide) : r_2 = 0)]; decide); (rw [(zf_val h9 (by decide) : r_2 = 1)]; decide)) (fun t ht hW => ⟨r_2, rfl, ⟨by omega, by omega, (show ((r_2 : Int32).toInt = 1 ↔ (0 ≤ nnu.toInt ∧ nnu.toInt ≤ 300)) from by (omega))⟩, ht⟩) (fun q hq => by cases hq) dX8_isSo_245
set_option maxHeartbeats 4000000 in
set_option maxRecDepth 100000 in
theorem c_F_M_isSo_6_0 (l : Launch) (D : va_G) (cI cJ cZ cP cS : ClassId) (po : zPool) (m0 mrf mki mpa mta mla msl mco mhe mso msi msh mce mca mwo mnu mte mwa mke mma mth mtr : Nat) (npu nte nat_ nde nto nse nhu nga nsd nfa nba npl nen nnu nwr nra nik : Int32) (hy0 : 0 ≤ npu.toInt) (hy1 : npu.toInt ≤ 8) (hy2 : 4 ≤ nte.toInt) (hy3 : nte.toInt ≤ 40) (hy4 : 0 ≤ nat_.toInt) (hy5 : nat_.toInt ≤ 40) (hy6 : 0 ≤ nde.toInt) (hy7 : nde.toInt ≤ 24) (hy8 : 0 ≤ nhu.toInt) (hy9 : nhu.toInt ≤ 9) (hy10 : 0 ≤ nra.toInt) (hy11 : nra.toInt ≤ 2000) (hy12 : 0 ≤ nik.toInt) (hy13 : nik.toInt ≤ 1) (hy14 : 0 ≤ nnu.toInt) (hy15 : nnu.toInt ≤ 999) : Met l yX8_isSo wsX8_isSo ({ frames := 2, cells := 0, slots := 0, locals := 43 }) (va_Pc [.ref m0, .int 6, .int 0] (zR D (zKT cI cJ cZ cP cS) po [(zMO m0 npu nte nat_ nde nto nse nhu nga nsd nfa mrf mki mpa mta mla msl mco mhe mso msi msh mce mca mwo mnu mte nba npl nen nnu nwr mwa mke mma mth mtr nra nik)])) (vp_Si (fun r => 0 ≤ r.toInt ∧ r.toInt ≤ 1 ∧ ((r.toInt = 1 ↔ (0 ≤ nnu.toInt ∧ nnu.toInt ≤ 9))))) 0 0 (fun _ => False) := by
  refine Met.ofW (cc := cX8_isSo) (maxL := 3) (ret := (some .boolean)) (by decide) rfl ?_
  intro p e s m args below meth c s₁ B hml hv
  obtain ⟨rfl, hP, hK, hN, hZ⟩ := hv
  have hx := B.exec
  have hb := B.bytes
  have hr := B.returns
  have hts := atoms_spec (ws := wsX8_isSo) B.pre
  have hown : s.vm.findClass RX8 = some m.cls := findClass_of_methodNamed B.named
  have hlocks := B.notSynchronized
  have hl := lv_entry ([.ref m0, .int 6, .int 0]) (n := 3) (Nat.le_of_ble_eq_true rfl)
  rw [lg_entry_eq]
  generalize (lg_sl ([.ref m0, .int 6, .int 0]) ++ List.replicate (3 - (lg_sl ([.ref m0, .int 6, .int 0])).length) Slot.unset).toArray = ls at hl ⊢
  replace hl : lv_has ls 3 [(0, .ref m0), (1, .int 6), (2, .int 0)] := hl
  refine lv_iload_n hx hb dX8_isSo_0 rfl (lv_at hl 1 rfl) ?_
  refine lv_tableIn (tgt := 234) hx hb dX8_isSo_1 (by decide) (by decide) rfl (by decide) ?_
  refine lv_aload_n hx hb dX8_isSo_234 rfl (lv_at hl 0 rfl) ?_
  refine lv_iload_n hx hb dX8_isSo_235 rfl (lv_at hl 1 rfl) ?_
  refine lv_iconst (v := 4) hx hb dX8_isSo_236 (by decide) ?_
  refine lv_isub hx hb dX8_isSo_237 ?_
  refine lv_topi (fun y_1 ey_1 => ?_)
  obtain rfl : y_1 = 2 := ey_1.trans (by decide)
  refine lv_aload_n hx hb dX8_isSo_238 rfl (lv_at hl 0 rfl) ?_
  refine va_get (D := D) (ci := 8) (v := .int nnu) (C := RX8) (T := TX8) (N := 38) hx hb hts hi_X8_isSo_8 hown hK hP 0 rfl rfl 29 (by decide) (hts (.fieldLink RX8 161 "TheLiningsInItModel" "number" "I") (List.mem_of_getElem? (i := 1) rfl)) (fun _ h9 => h9) rfl dX8_isSo_239 ?_
  refine zc_V (As := [.int 2, .int nnu]) (rest := []) ⟨hx, hb, hml, hown, hts⟩ (c_F_M_isAsked_2 l D cI cJ cZ cP cS po m0 mrf mki mpa mta mla msl mco mhe mso msi msh mce mca mwo mnu mte mwa mke mma mth mtr (npu) (nte) (nat_) (nde) (nto) (nse) (nhu) (nga) (nsd) (nfa) (nba) (npl) (nen) (nnu) (nwr) (nra) (nik) (nnu) hy0 hy1 hy2 hy3 hy4 hy5 hy6 hy7 hy8 hy9 hy10 hy11 hy12 hy13) (cwV 2 hts gX8_isSo_X8_isAsked rfl rfl rfl ⟨rfl, dh_X8_isAsked⟩ ⟨Nat.le_of_ble_eq_true rfl, Nat.le_of_ble_eq_true rfl⟩) hK hN hZ hP (hP.sub [0] rfl) (va_recv (q := (RX8, TX8, 38)) hK hP (ci := 8) (q0 := 0) rfl rfl) rfl hl.1 rfl (Nat.le_of_ble_eq_true rfl) dX8_isSo_242 ⟨Nat.le_of_ble_eq_true rfl, Nat.le_of_ble_eq_true rfl⟩ (fun r_2 hr_2 => ?_)
  obtain ⟨g_3, g_4, hsr_2_0⟩ := hr_2
  exact W.zret (v := r_2) hx hb hr (by rcases (show r_2.toInt = 0 ∨ r_2.toInt = 1 by omega) with h9 | h9; (rw [(zf_val h9 (by decide) : r_2 = 0)]; decide); (rw [(zf_val h9 (by decide) : r_2 = 1)]; decide)) (fun t ht hW => ⟨r_2, rfl, ⟨by omega, by omega, (show ((r_2 : Int32).toInt = 1 ↔ (0 ≤ nnu.toInt ∧ nnu.toInt ≤ 9)) from by (omega))⟩, ht⟩) (fun q hq => by cases hq) dX8_isSo_245
set_option maxHeartbeats 4000000 in
set_option maxRecDepth 100000 in
theorem c_F_M_isSo_7_0 (l : Launch) (D : va_G) (cI cJ cZ cP cS : ClassId) (po : zPool) (m0 mrf mki mpa mta mla msl mco mhe mso msi msh mce mca mwo mnu mte mwa mke mma mth mtr : Nat) (npu nte nat_ nde nto nse nhu nga nsd nfa nba npl nen nnu nwr nra nik : Int32) (hy0 : 0 ≤ npu.toInt) (hy1 : npu.toInt ≤ 8) (hy2 : 4 ≤ nte.toInt) (hy3 : nte.toInt ≤ 40) (hy4 : 0 ≤ nat_.toInt) (hy5 : nat_.toInt ≤ 40) (hy6 : 0 ≤ nde.toInt) (hy7 : nde.toInt ≤ 24) (hy8 : 0 ≤ nhu.toInt) (hy9 : nhu.toInt ≤ 9) (hy10 : 0 ≤ nra.toInt) (hy11 : nra.toInt ≤ 2000) (hy12 : 0 ≤ nik.toInt) (hy13 : nik.toInt ≤ 1) (hy14 : 0 ≤ nnu.toInt) (hy15 : nnu.toInt ≤ 999) : Met l yX8_isSo wsX8_isSo ({ frames := 2, cells := 0, slots := 0, locals := 43 }) (va_Pc [.ref m0, .int 7, .int 0] (zR D (zKT cI cJ cZ cP cS) po [(zMO m0 npu nte nat_ nde nto nse nhu nga nsd nfa mrf mki mpa mta mla msl mco mhe mso msi msh mce mca mwo mnu mte nba npl nen nnu nwr mwa mke mma mth mtr nra nik)])) (vp_Si (fun r => 0 ≤ r.toInt ∧ r.toInt ≤ 1 ∧ ((r.toInt = 1 ↔ (1 ≤ nnu.toInt ∧ nnu.toInt ≤ 9))))) 0 0 (fun _ => False) := by
  refine Met.ofW (cc := cX8_isSo) (maxL := 3) (ret := (some .boolean)) (by decide) rfl ?_
  intro p e s m args below meth c s₁ B hml hv
  obtain ⟨rfl, hP, hK, hN, hZ⟩ := hv
  have hx := B.exec
  have hb := B.bytes
  have hr := B.returns
  have hts := atoms_spec (ws := wsX8_isSo) B.pre
  have hown : s.vm.findClass RX8 = some m.cls := findClass_of_methodNamed B.named
  have hlocks := B.notSynchronized
  have hl := lv_entry ([.ref m0, .int 7, .int 0]) (n := 3) (Nat.le_of_ble_eq_true rfl)
  rw [lg_entry_eq]
  generalize (lg_sl ([.ref m0, .int 7, .int 0]) ++ List.replicate (3 - (lg_sl ([.ref m0, .int 7, .int 0])).length) Slot.unset).toArray = ls at hl ⊢
  replace hl : lv_has ls 3 [(0, .ref m0), (1, .int 7), (2, .int 0)] := hl
  refine lv_iload_n hx hb dX8_isSo_0 rfl (lv_at hl 1 rfl) ?_
  refine lv_tableIn (tgt := 234) hx hb dX8_isSo_1 (by decide) (by decide) rfl (by decide) ?_
  refine lv_aload_n hx hb dX8_isSo_234 rfl (lv_at hl 0 rfl) ?_
  refine lv_iload_n hx hb dX8_isSo_235 rfl (lv_at hl 1 rfl) ?_
  refine lv_iconst (v := 4) hx hb dX8_isSo_236 (by decide) ?_
  refine lv_isub hx hb dX8_isSo_237 ?_
  refine lv_topi (fun y_1 ey_1 => ?_)
  obtain rfl : y_1 = 3 := ey_1.trans (by decide)
  refine lv_aload_n hx hb dX8_isSo_238 rfl (lv_at hl 0 rfl) ?_
  refine va_get (D := D) (ci := 8) (v := .int nnu) (C := RX8) (T := TX8) (N := 38) hx hb hts hi_X8_isSo_8 hown hK hP 0 rfl rfl 29 (by decide) (hts (.fieldLink RX8 161 "TheLiningsInItModel" "number" "I") (List.mem_of_getElem? (i := 1) rfl)) (fun _ h9 => h9) rfl dX8_isSo_239 ?_
  refine zc_V (As := [.int 3, .int nnu]) (rest := []) ⟨hx, hb, hml, hown, hts⟩ (c_F_M_isAsked_3 l D cI cJ cZ cP cS po m0 mrf mki mpa mta mla msl mco mhe mso msi msh mce mca mwo mnu mte mwa mke mma mth mtr (npu) (nte) (nat_) (nde) (nto) (nse) (nhu) (nga) (nsd) (nfa) (nba) (npl) (nen) (nnu) (nwr) (nra) (nik) (nnu) hy0 hy1 hy2 hy3 hy4 hy5 hy6 hy7 hy8 hy9 hy10 hy11 hy12 hy13) (cwV 2 hts gX8_isSo_X8_isAsked rfl rfl rfl ⟨rfl, dh_X8_isAsked⟩ ⟨Nat.le_of_ble_eq_true rfl, Nat.le_of_ble_eq_true rfl⟩) hK hN hZ hP (hP.sub [0] rfl) (va_recv (q := (RX8, TX8, 38)) hK hP (ci := 8) (q0 := 0) rfl rfl) rfl hl.1 rfl (Nat.le_of_ble_eq_true rfl) dX8_isSo_242 ⟨Nat.le_of_ble_eq_true rfl, Nat.le_of_ble_eq_true rfl⟩ (fun r_2 hr_2 => ?_)
  obtain ⟨g_3, g_4, hsr_2_0⟩ := hr_2
  exact W.zret (v := r_2) hx hb hr (by rcases (show r_2.toInt = 0 ∨ r_2.toInt = 1 by omega) with h9 | h9; (rw [(zf_val h9 (by decide) : r_2 = 0)]; decide); (rw [(zf_val h9 (by decide) : r_2 = 1)]; decide)) (fun t ht hW => ⟨r_2, rfl, ⟨by omega, by omega, (show ((r_2 : Int32).toInt = 1 ↔ (1 ≤ nnu.toInt ∧ nnu.toInt ≤ 9)) from by (omega))⟩, ht⟩) (fun q hq => by cases hq) dX8_isSo_245
end
