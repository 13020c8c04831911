section
theorem gl_X6_init_X60 : GoodIn wsX6_init wsX60 := (dg_t (dg_t (dg_t (dg_t (dg_t (dg_t (dg_t (dg_t (dg_t (dg_t (dg_t gw_wsX60)))))))))))
theorem hi_X6_init_6 : ∀ w ∈ u_ws RX6 TX6 5, w ∈ wsX6_init := fun w h => (gl_X6_init_X60 w h).1
set_option maxHeartbeats 4000000 in
set_option maxRecDepth 100000 in
theorem c_Zip_init (l : Launch) (D : va_G) (cI cJ cZ cP cS : ClassId) (po : zPool) (z0 : Nat)  (hpz : Nat) : Met l yX6_init wsX6_init ({ frames := 1, cells := 2, slots := 80, locals := 12 }) (va_Pc [.ref z0] (zW D (zKT cI cJ cZ cP cS) po [(z0, .inr (6, [.null, .null, .int 0, .int 0, .int 0]))] hpz)) (va_Qv (fun (u : (Nat) × (Nat)) => True) (zB D [(z0, .inr (6, [.null, .null, .int 0, .int 0, .int 0]))] hpz (fun (u : (Nat) × (Nat)) => [(z0, .inr (6, [.ref u.1, .ref u.2, .int 20, .int 0, .int 3])), (u.1, .inl (cZ, 40, .inl (fun _ => 0))), (u.2, .inl (cI, 40, .inl (fun _ => 0)))])) (va_A [(z0, .inr (6, [.null, .null, .int 0, .int 0, .int 0]))] hpz)) 2 80 (va_A [(z0, .inr (6, [.null, .null, .int 0, .int 0, .int 0]))] hpz) := by
  refine Met.ofW (cc := cX6_init) (maxL := 1) (ret := none) (by decide) rfl ?_
  intro p e s m args below meth c s₁ B hml hv
  obtain ⟨rfl, hsz, hP, hK, hD0, hN, hZ⟩ := hv
  have hx := B.exec
  have hb := B.bytes
  have hr := B.returns
  have hts := atoms_spec (ws := wsX6_init) B.pre
  have hown : s.vm.findClass RX6 = some m.cls := findClass_of_methodNamed B.named
  have hlocks := B.notSynchronized
  have hin : meth.name = "<init>" := (name_of_methodNamed B.named B.method).1
  subst hsz
  have hD := hD0.self (sz := s.heap.size)
  have hA := zA_of hD
  have hl := lv_entry ([.ref z0]) (n := 1) (Nat.le_of_ble_eq_true rfl)
  rw [lg_entry_eq]
  generalize (lg_sl ([.ref z0]) ++ List.replicate (1 - (lg_sl ([.ref z0])).length) Slot.unset).toArray = ls at hl ⊢
  replace hl : lv_has ls 1 [(0, .ref z0)] := hl
  refine zw_begin hP hD (fun H locs hP1 hS => ?_)
  clear hP
  have hP := hP1
  clear hP1
  refine lv_aload_n hx hb dX6_init_0 rfl (lv_at hl 0 rfl) ?_
  refine W.objInit hx hb hown (hts (.methodLink RX6 3 objectInit) (List.mem_of_getElem? (i := 1) rfl)) (hts _ (List.mem_of_getElem? (i := 2) rfl)) (hts _ (List.mem_of_getElem? (i := 3) rfl)) rfl (by rw [hml]; exact hl.1) rfl dX6_init_1 (Nat.le_of_ble_eq_true rfl) (Nat.le_of_ble_eq_true rfl) ?_
  refine W.eq (g2 := F0 m 4 ls []) rfl ?_
  refine lv_aload_n hx hb dX6_init_4 rfl (lv_at hl 0 rfl) ?_
  refine lv_bipush (v := 40) hx hb dX6_init_5 (by decide) ?_
  refine va_newa hx hb (atype := .boolean) (hts _ (List.mem_of_getElem? (i := 4) rfl)) rfl hK hP hD hS hA (N' := 40) (a0 := (40, .inl (fun _ => 0))) (fun _ => rfl) (by decide) (by decide) (Nat.le_of_ble_eq_true rfl) (Nat.le_of_ble_eq_true rfl) (Nat.le_of_ble_eq_true rfl) dX6_init_7 (fun q_1 cA H hK1 hP hD hS => ?_)
  obtain rfl : cZ = cA := zk_eqZ (k := 2) hK rfl hK1
  have h9R := zRe (ws' := [(z0, .inr (6, [.null, .null, .int 0, .int 0, .int 0])), (q_1, .inl (cZ, 40, .inl (fun _ => 0)))]) hP hD rfl
  clear hP hD
  obtain ⟨hP, hD⟩ := h9R
  refine W.widen (k := 1) (n := 40) (Nat.le_of_ble_eq_true rfl) (Nat.le_of_ble_eq_true rfl) ?_
  refine va_putF (D := D) (ci := 6) (v := .ref q_1) (ty := (.array .boolean)) (C := RX6) (T := TX6) (N := 5) hx hb hts hi_X6_init_6 tyX6 tyX6_ok nmX6 hown hK hP hD hS 0 rfl rfl 0 (by decide) (hts (.fieldLink RX6 9 "TheLiningsInIt$Zip" "lacking" "[Z") (List.mem_of_getElem? (i := 5) rfl)) (fun _ h9 => h9) rfl hin rfl (tyX6_ok 0 (Nat.le_of_ble_eq_true rfl)) rfl rfl (Nat.le_of_ble_eq_true rfl) dX6_init_9 (fun H locs hP hD hS => ?_)
  have h9R := zRe (ws' := [(z0, .inr (6, [.ref q_1, .null, .int 0, .int 0, .int 0])), (q_1, .inl (cZ, 40, .inl (fun _ => 0)))]) hP hD rfl
  clear hP hD
  obtain ⟨hP, hD⟩ := h9R
  refine lv_aload_n hx hb dX6_init_12 rfl (lv_at hl 0 rfl) ?_
  refine lv_bipush (v := 40) hx hb dX6_init_13 (by decide) ?_
  refine va_newa hx hb (atype := .int) (hts _ (List.mem_of_getElem? (i := 6) rfl)) rfl hK hP hD hS hA (N' := 40) (a0 := (40, .inl (fun _ => 0))) (fun _ => rfl) (by decide) (by decide) (Nat.le_of_ble_eq_true rfl) (Nat.le_of_ble_eq_true rfl) (Nat.le_of_ble_eq_true rfl) dX6_init_15 (fun q_2 cA H hK1 hP hD hS => ?_)
  obtain rfl : cI = cA := zk_eqI (k := 0) hK rfl hK1
  have h9R := zRe (ws' := [(z0, .inr (6, [.ref q_1, .null, .int 0, .int 0, .int 0])), (q_1, .inl (cZ, 40, .inl (fun _ => 0))), (q_2, .inl (cI, 40, .inl (fun _ => 0)))]) hP hD rfl
  clear hP hD
  obtain ⟨hP, hD⟩ := h9R
  refine W.widen (k := 2) (n := 80) (Nat.le_of_ble_eq_true rfl) (Nat.le_of_ble_eq_true rfl) ?_
  refine va_putF (D := D) (ci := 6) (v := .ref q_2) (ty := (.array .int)) (C := RX6) (T := TX6) (N := 5) hx hb hts hi_X6_init_6 tyX6 tyX6_ok nmX6 hown hK hP hD hS 0 rfl rfl 1 (by decide) (hts (.fieldLink RX6 15 "TheLiningsInIt$Zip" "slacks" "[I") (List.mem_of_getElem? (i := 7) rfl)) (fun _ h9 => h9) rfl hin rfl (tyX6_ok 1 (Nat.le_of_ble_eq_true rfl)) rfl rfl (Nat.le_of_ble_eq_true rfl) dX6_init_17 (fun H locs hP hD hS => ?_)
  have h9R := zRe (ws' := [(z0, .inr (6, [.ref q_1, .ref q_2, .int 0, .int 0, .int 0])), (q_1, .inl (cZ, 40, .inl (fun _ => 0))), (q_2, .inl (cI, 40, .inl (fun _ => 0)))]) hP hD rfl
  clear hP hD
  obtain ⟨hP, hD⟩ := h9R
  refine lv_aload_n hx hb dX6_init_20 rfl (lv_at hl 0 rfl) ?_
  refine lv_bipush (v := 20) hx hb dX6_init_21 (by decide) ?_
  refine va_put (D := D) (ci := 6) (v := .int 20) (ty := .int) (C := RX6) (T := TX6) (N := 5) hx hb hts hi_X6_init_6 tyX6 tyX6_ok nmX6 hown hK hP hD hS 0 rfl rfl 2 (by decide) (hts (.fieldLink RX6 19 "TheLiningsInIt$Zip" "size" "I") (List.mem_of_getElem? (i := 8) rfl)) (fun _ h9 => h9) rfl (tyX6_ok 2 (Nat.le_of_ble_eq_true rfl)) rfl rfl (Nat.le_of_ble_eq_true rfl) dX6_init_23 (fun H locs hP hD hS => ?_)
  have h9R := zRe (ws' := [(z0, .inr (6, [.ref q_1, .ref q_2, .int 20, .int 0, .int 0])), (q_1, .inl (cZ, 40, .inl (fun _ => 0))), (q_2, .inl (cI, 40, .inl (fun _ => 0)))]) hP hD rfl
  clear hP hD
  obtain ⟨hP, hD⟩ := h9R
  refine lv_aload_n hx hb dX6_init_26 rfl (lv_at hl 0 rfl) ?_
  refine lv_iconst (v := 0) hx hb dX6_init_27 (by decide) ?_
  refine va_put (D := D) (ci := 6) (v := .int 0) (ty := .int) (C := RX6) (T := TX6) (N := 5) hx hb hts hi_X6_init_6 tyX6 tyX6_ok nmX6 hown hK hP hD hS 0 rfl rfl 3 (by decide) (hts (.fieldLink RX6 23 "TheLiningsInIt$Zip" "at" "I") (List.mem_of_getElem? (i := 9) rfl)) (fun _ h9 => h9) rfl (tyX6_ok 3 (Nat.le_of_ble_eq_true rfl)) rfl rfl (Nat.le_of_ble_eq_true rfl) dX6_init_28 (fun H locs hP hD hS => ?_)
  have h9R := zRe (ws' := [(z0, .inr (6, [.ref q_1, .ref q_2, .int 20, .int 0, .int 0])), (q_1, .inl (cZ, 40, .inl (fun _ => 0))), (q_2, .inl (cI, 40, .inl (fun _ => 0)))]) hP hD rfl
  clear hP hD
  obtain ⟨hP, hD⟩ := h9R
  refine lv_aload_n hx hb dX6_init_31 rfl (lv_at hl 0 rfl) ?_
  refine lv_iconst (v := 3) hx hb dX6_init_32 (by decide) ?_
  refine va_put (D := D) (ci := 6) (v := .int 3) (ty := .int) (C := RX6) (T := TX6) (N := 5) hx hb hts hi_X6_init_6 tyX6 tyX6_ok nmX6 hown hK hP hD hS 0 rfl rfl 4 (by decide) (hts (.fieldLink RX6 26 "TheLiningsInIt$Zip" "gap" "I") (List.mem_of_getElem? (i := 10) rfl)) (fun _ h9 => h9) rfl (tyX6_ok 4 (Nat.le_of_ble_eq_true rfl)) rfl rfl (Nat.le_of_ble_eq_true rfl) dX6_init_33 (fun H locs hP hD hS => ?_)
  have h9R := zRe (ws' := [(z0, .inr (6, [.ref q_1, .ref q_2, .int 20, .int 0, .int 3])), (q_1, .inl (cZ, 40, .inl (fun _ => 0))), (q_2, .inl (cI, 40, .inl (fun _ => 0)))]) hP hD rfl
  clear hP hD
  obtain ⟨hP, hD⟩ := h9R
  refine W.widen (k := 2) (n := 80) (Nat.le_of_ble_eq_true rfl) (Nat.le_of_ble_eq_true rfl) ?_
  exact W.vret hx hb hr (fun t ht hW => ⟨⟨(q_1, q_2), rfl, trivial, zRet ht hP hD [0, 1, 2] (by decide) rfl⟩, hS.F ht⟩) hS.2.2 dX6_init_36
theorem hi_X0_init_6 : ∀ w ∈ u_ws RX6 TX6 5, w ∈ wsX0_init := fun w h => (gl_X0_init_X60 w h).1
theorem gl_X0_init_X00 : GoodIn wsX0_init wsX00 := (dg_t (dg_r gw_wsX00))
theorem hi_X0_init_0 : ∀ w ∈ u_ws RX0 TX0 9, w ∈ wsX0_init := fun w h => (gl_X0_init_X00 w h).1
set_option maxHeartbeats 4000000 in
set_option maxRecDepth 100000 in
theorem c_Jacket_init (l : Launch) (D : va_G) (cI cJ cZ cP cS : ClassId) (po : zPool) (j0 : Nat)  (hpz : Nat) : Met l yX0_init wsX0_init ({ frames := 2, cells := 5, slots := 96, locals := 32 }) (va_Pc [.ref j0] (zW D (zKT cI cJ cZ cP cS) po [(j0, .inr (0, [.null, .null, .null, .int 0, .int 0, .int 0, .int 0, .int 0, .int 0]))] hpz)) (va_Qv (fun (u : (Nat) × (Nat) × (Nat) × (Nat) × (Nat)) => True) (zB D [(j0, .inr (0, [.null, .null, .null, .int 0, .int 0, .int 0, .int 0, .int 0, .int 0]))] hpz (fun (u : (Nat) × (Nat) × (Nat) × (Nat) × (Nat)) => [(j0, .inr (0, [.ref u.1, .ref u.2.2.2.1, .ref u.2.2.2.2, .int 0, .int 0, .int 0, .int 60, .int 0, .int 1])), (u.1, .inr (6, [.ref u.2.1, .ref u.2.2.1, .int 20, .int 0, .int 3])), (u.2.1, .inl (cZ, 40, .inl (fun _ => 0))), (u.2.2.1, .inl (cI, 40, .inl (fun _ => 0))), (u.2.2.2.1, .inl (cP, 8, .inr (.inr (.inr (.inr (fun _ => none)))))), (u.2.2.2.2, .inl (cI, 3, .inl (zL3 5 10 50)))])) (va_A [(j0, .inr (0, [.null, .null, .null, .int 0, .int 0, .int 0, .int 0, .int 0, .int 0]))] hpz)) 5 96 (va_A [(j0, .inr (0, [.null, .null, .null, .int 0, .int 0, .int 0, .int 0, .int 0, .int 0]))] hpz) := by
  refine Met.ofW (cc := cX0_init) (maxL := 1) (ret := none) (by decide) rfl ?_
  intro p e s m args below meth c s₁ B hml hv
  obtain ⟨rfl, hsz, hP, hK, hD0, hN, hZ⟩ := hv
  have hx := B.exec
  have hb := B.bytes
  have hr := B.returns
  have hts := atoms_spec (ws := wsX0_init) B.pre
  have hown : s.vm.findClass RX0 = some m.cls := findClass_of_methodNamed B.named
  have hlocks := B.notSynchronized
  have hin : meth.name = "<init>" := (name_of_methodNamed B.named B.method).1
  subst hsz
  have hD := hD0.self (sz := s.heap.size)
  have hA := zA_of hD
  have hl := lv_entry ([.ref j0]) (n := 1) (Nat.le_of_ble_eq_true rfl)
  rw [lg_entry_eq]
  generalize (lg_sl ([.ref j0]) ++ List.replicate (1 - (lg_sl ([.ref j0])).length) Slot.unset).toArray = ls at hl ⊢
  replace hl : lv_has ls 1 [(0, .ref j0)] := hl
  refine zw_begin hP hD (fun H locs hP1 hS => ?_)
  clear hP
  have hP := hP1
  clear hP1
  refine lv_aload_n hx hb dX0_init_0 rfl (lv_at hl 0 rfl) ?_
  refine W.objInit hx hb hown (hts (.methodLink RX0 3 objectInit) (List.mem_of_getElem? (i := 1) rfl)) (hts _ (List.mem_of_getElem? (i := 2) rfl)) (hts _ (List.mem_of_getElem? (i := 3) rfl)) rfl (by rw [hml]; exact hl.1) rfl dX0_init_1 (Nat.le_of_ble_eq_true rfl) (Nat.le_of_ble_eq_true rfl) ?_
  refine W.eq (g2 := F0 m 4 ls []) rfl ?_
  refine lv_aload_n hx hb dX0_init_4 rfl (lv_at hl 0 rfl) ?_
  refine va_new (ci := 6) (fs := [.null, .null, .int 0, .int 0, .int 0]) (C := RX6) (T := TX6) (N := 5) hx hb hts hi_X0_init_6 tyX6 tyX6_ok hown (hts (.classLink RX0 9 RX6) (List.mem_of_getElem? (i := 4) rfl)) (hts _ (List.mem_of_getElem? (i := 5) rfl)) (hts _ (List.mem_of_getElem? (i := 6) rfl)) hK hP hD hS hA rfl (fun j hj => by rcases (show j = 0 ∨ j = 1 ∨ j = 2 ∨ j = 3 ∨ j = 4 by omega) with rfl | rfl | rfl | rfl | rfl <;> rfl) (Nat.le_of_ble_eq_true rfl) (Nat.le_of_ble_eq_true rfl) dX0_init_5 (fun q_1 H hP hD hS => ?_)
  have h9R := zRe (ws' := [(j0, .inr (0, [.null, .null, .null, .int 0, .int 0, .int 0, .int 0, .int 0, .int 0])), (q_1, .inr (6, [.null, .null, .int 0, .int 0, .int 0]))]) hP hD rfl
  clear hP hD
  obtain ⟨hP, hD⟩ := h9R
  refine W.widen (k := 1) (n := 5) (Nat.le_of_ble_eq_true rfl) (Nat.le_of_ble_eq_true rfl) ?_
  refine lv_dup hx hb dX0_init_8 rfl ?_
  skip
  refine zw_IN (As := []) (rest := [.ref q_1, .ref j0]) (wr := [(j0, .inr (0, [.null, .null, .null, .int 0, .int 0, .int 0, .int 0, .int 0, .int 0]))]) ⟨hx, hb, hml, hown, hts⟩ (c_Zip_init l D cI cJ cZ cP cS po q_1  H.size) ⟨(va_cnB 0 hts gX0_init_X6_init_n11 rfl rfl rfl (hN.1 (RX0, 11, yX6_init) (List.mem_of_getElem? (i := 1) rfl)) (hts _ (List.mem_of_getElem? (i := 6) rfl)) dh_X6_init ⟨Nat.le_of_ble_eq_true rfl, Nat.le_of_ble_eq_true rfl⟩), rfl, (hts _ (List.mem_of_getElem? (i := 18) rfl))⟩ hK hN (hZ.kept hS) hP hD hS hA [1] [0] rfl rfl (by decide) (by decide) (by decide) rfl hl.1 rfl (Nat.le_of_ble_eq_true rfl) dX0_init_9 ⟨Nat.le_of_ble_eq_true rfl, Nat.le_of_ble_eq_true rfl⟩ (fun u_3 H locs hr_2 hP hD hS => ?_)
  obtain ⟨q_4, q_5⟩ := u_3
  try dsimp only at hr_2
  have h9R := zRe (ws' := [(j0, .inr (0, [.null, .null, .null, .int 0, .int 0, .int 0, .int 0, .int 0, .int 0])), (q_1, .inr (6, [.ref q_4, .ref q_5, .int 20, .int 0, .int 3])), (q_4, .inl (cZ, 40, .inl (fun _ => 0))), (q_5, .inl (cI, 40, .inl (fun _ => 0)))]) hP hD rfl
  clear hP hD
  obtain ⟨hP, hD⟩ := h9R
  refine W.widen (k := 3) (n := 85) (Nat.le_of_ble_eq_true rfl) (Nat.le_of_ble_eq_true rfl) ?_
  refine va_putF (D := D) (ci := 0) (v := .ref q_1) (ty := (.object "TheLiningsInIt$Zip")) (C := RX0) (T := TX0) (N := 9) hx hb hts hi_X0_init_0 tyX0 tyX0_ok nmX0 hown hK hP hD hS 0 rfl rfl 0 (by decide) (hts (.fieldLink RX0 12 "TheLiningsInIt$Jacket" "zip" "LTheLiningsInIt$Zip;") (List.mem_of_getElem? (i := 7) rfl)) (fun _ h9 => h9) rfl hin rfl (tyX0_ok 0 (Nat.le_of_ble_eq_true rfl)) rfl rfl (Nat.le_of_ble_eq_true rfl) dX0_init_12 (fun H locs hP hD hS => ?_)
  have h9R := zRe (ws' := [(j0, .inr (0, [.ref q_1, .null, .null, .int 0, .int 0, .int 0, .int 0, .int 0, .int 0])), (q_1, .inr (6, [.ref q_4, .ref q_5, .int 20, .int 0, .int 3])), (q_4, .inl (cZ, 40, .inl (fun _ => 0))), (q_5, .inl (cI, 40, .inl (fun _ => 0)))]) hP hD rfl
  clear hP hD
  obtain ⟨hP, hD⟩ := h9R
  refine lv_aload_n hx hb dX0_init_15 rfl (lv_at hl 0 rfl) ?_
  refine lv_bipush (v := 8) hx hb dX0_init_16 (by decide) ?_
  refine va_newq hx hb hown (hts (.classLink RX0 18 RX2) (List.mem_of_getElem? (i := 8) rfl)) hN.2.2.1 hK hP hD hS hA (N' := 8) (by decide) (by decide) (Nat.le_of_ble_eq_true rfl) (Nat.le_of_ble_eq_true rfl) (Nat.le_of_ble_eq_true rfl) dX0_init_18 (fun q_6 cA H hK1 hP hD hS => ?_)
  obtain rfl : cP = cA := zk_eqO (k := 3) hK rfl hK1
  have h9R := zRe (ws' := [(j0, .inr (0, [.ref q_1, .null, .null, .int 0, .int 0, .int 0, .int 0, .int 0, .int 0])), (q_1, .inr (6, [.ref q_4, .ref q_5, .int 20, .int 0, .int 3])), (q_4, .inl (cZ, 40, .inl (fun _ => 0))), (q_5, .inl (cI, 40, .inl (fun _ => 0))), (q_6, .inl (cP, 8, .inr (.inr (.inr (.inr (fun _ => none))))))]) hP hD rfl
  clear hP hD
  obtain ⟨hP, hD⟩ := h9R
  refine W.widen (k := 4) (n := 93) (Nat.le_of_ble_eq_true rfl) (Nat.le_of_ble_eq_true rfl) ?_
  refine va_putF (D := D) (ci := 0) (v := .ref q_6) (ty := (.array (.object "TheLiningsInIt$Pull"))) (C := RX0) (T := TX0) (N := 9) hx hb hts hi_X0_init_0 tyX0 tyX0_ok nmX0 hown hK hP hD hS 0 rfl rfl 1 (by decide) (hts (.fieldLink RX0 20 "TheLiningsInIt$Jacket" "pulls" "[LTheLiningsInIt$Pull;") (List.mem_of_getElem? (i := 9) rfl)) (fun _ h9 => h9) rfl hin rfl (tyX0_ok 1 (Nat.le_of_ble_eq_true rfl)) rfl rfl (Nat.le_of_ble_eq_true rfl) dX0_init_21 (fun H locs hP hD hS => ?_)
  have h9R := zRe (ws' := [(j0, .inr (0, [.ref q_1, .ref q_6, .null, .int 0, .int 0, .int 0, .int 0, .int 0, .int 0])), (q_1, .inr (6, [.ref q_4, .ref q_5, .int 20, .int 0, .int 3])), (q_4, .inl (cZ, 40, .inl (fun _ => 0))), (q_5, .inl (cI, 40, .inl (fun _ => 0))), (q_6, .inl (cP, 8, .inr (.inr (.inr (.inr (fun _ => none))))))]) hP hD rfl
  clear hP hD
  obtain ⟨hP, hD⟩ := h9R
  refine lv_aload_n hx hb dX0_init_24 rfl (lv_at hl 0 rfl) ?_
  refine lv_iconst (v := 3) hx hb dX0_init_25 (by decide) ?_
  refine va_newa hx hb (atype := .int) (hts _ (List.mem_of_getElem? (i := 10) rfl)) rfl hK hP hD hS hA (N' := 3) (a0 := (3, .inl (fun _ => 0))) (fun _ => rfl) (by decide) (by decide) (Nat.le_of_ble_eq_true rfl) (Nat.le_of_ble_eq_true rfl) (Nat.le_of_ble_eq_true rfl) dX0_init_26 (fun q_7 cA H hK1 hP hD hS => ?_)
  obtain rfl : cI = cA := zk_eqI (k := 0) hK rfl hK1
  have h9R := zRe (ws' := [(j0, .inr (0, [.ref q_1, .ref q_6, .null, .int 0, .int 0, .int 0, .int 0, .int 0, .int 0])), (q_1, .inr (6, [.ref q_4, .ref q_5, .int 20, .int 0, .int 3])), (q_4, .inl (cZ, 40, .inl (fun _ => 0))), (q_5, .inl (cI, 40, .inl (fun _ => 0))), (q_6, .inl (cP, 8, .inr (.inr (.inr (.inr (fun _ => none)))))), (q_7, .inl (cI, 3, .inl (fun _ => 0)))]) hP hD rfl
  clear hP hD
  obtain ⟨hP, hD⟩ := h9R
  refine W.widen (k := 5) (n := 96) (Nat.le_of_ble_eq_true rfl) (Nat.le_of_ble_eq_true rfl) ?_
  refine lv_dup hx hb dX0_init_28 rfl ?_
  refine lv_iconst (v := 0) hx hb dX0_init_29 (by decide) ?_
  refine lv_iconst (v := 5) hx hb dX0_init_30 (by decide) ?_
  refine va_iast hx hb hK hP hD hS 5 0 rfl rfl (zf_in (by decide) (by decide)) dX0_init_31 (fun H locs hP hD hS => ?_)
  rw [zL3k_0] at hP hD
  have h9R := zRe (ws' := [(j0, .inr (0, [.ref q_1, .ref q_6, .null, .int 0, .int 0, .int 0, .int 0, .int 0, .int 0])), (q_1, .inr (6, [.ref q_4, .ref q_5, .int 20, .int 0, .int 3])), (q_4, .inl (cZ, 40, .inl (fun _ => 0))), (q_5, .inl (cI, 40, .inl (fun _ => 0))), (q_6, .inl (cP, 8, .inr (.inr (.inr (.inr (fun _ => none)))))), (q_7, .inl (cI, 3, .inl (zL3 5 0 0)))]) hP hD rfl
  clear hP hD
  obtain ⟨hP, hD⟩ := h9R
  refine lv_dup hx hb dX0_init_32 rfl ?_
  refine lv_iconst (v := 1) hx hb dX0_init_33 (by decide) ?_
  refine lv_bipush (v := 10) hx hb dX0_init_34 (by decide) ?_
  refine va_iast hx hb hK hP hD hS 5 0 rfl rfl (zf_in (by decide) (by decide)) dX0_init_36 (fun H locs hP hD hS => ?_)
  rw [zL3_1] at hP hD
  have h9R := zRe (ws' := [(j0, .inr (0, [.ref q_1, .ref q_6, .null, .int 0, .int 0, .int 0, .int 0, .int 0, .int 0])), (q_1, .inr (6, [.ref q_4, .ref q_5, .int 20, .int 0, .int 3])), (q_4, .inl (cZ, 40, .inl (fun _ => 0))), (q_5, .inl (cI, 40, .inl (fun _ => 0))), (q_6, .inl (cP, 8, .inr (.inr (.inr (.inr (fun _ => none)))))), (q_7, .inl (cI, 3, .inl (zL3 5 10 0)))]) hP hD rfl
  clear hP hD
  obtain ⟨hP, hD⟩ := h9R
  refine lv_dup hx hb dX0_init_37 rfl ?_
  refine lv_iconst (v := 2) hx hb dX0_init_38 (by decide) ?_
  refine lv_bipush (v := 50) hx hb dX0_init_39 (by decide) ?_
  refine va_iast hx hb hK hP hD hS 5 0 rfl rfl (zf_in (by decide) (by decide)) dX0_init_41 (fun H locs hP hD hS => ?_)
  rw [zL3_2] at hP hD
  have h9R := zRe (ws' := [(j0, .inr (0, [.ref q_1, .ref q_6, .null, .int 0, .int 0, .int 0, .int 0, .int 0, .int 0])), (q_1, .inr (6, [.ref q_4, .ref q_5, .int 20, .int 0, .int 3])), (q_4, .inl (cZ, 40, .inl (fun _ => 0))), (q_5, .inl (cI, 40, .inl (fun _ => 0))), (q_6, .inl (cP, 8, .inr (.inr (.inr (.inr (fun _ => none)))))), (q_7, .inl (cI, 3, .inl (zL3 5 10 50)))]) hP hD rfl
  clear hP hD
  obtain ⟨hP, hD⟩ := h9R
  refine va_putF (D := D) (ci := 0) (v := .ref q_7) (ty := (.array .int)) (C := RX0) (T := TX0) (N := 9) hx hb hts hi_X0_init_0 tyX0 tyX0_ok nmX0 hown hK hP hD hS 0 rfl rfl 2 (by decide) (hts (.fieldLink RX0 24 "TheLiningsInIt$Jacket" "costs" "[I") (List.mem_of_getElem? (i := 11) rfl)) (fun _ h9 => h9) rfl hin rfl (tyX0_ok 2 (Nat.le_of_ble_eq_true rfl)) rfl rfl (Nat.le_of_ble_eq_true rfl) dX0_init_42 (fun H locs hP hD hS => ?_)
  have h9R := zRe (ws' := [(j0, .inr (0, [.ref q_1, .ref q_6, .ref q_7, .int 0, .int 0, .int 0, .int 0, .int 0, .int 0])), (q_1, .inr (6, [.ref q_4, .ref q_5, .int 20, .int 0, .int 3])), (q_4, .inl (cZ, 40, .inl (fun _ => 0))), (q_5, .inl (cI, 40, .inl (fun _ => 0))), (q_6, .inl (cP, 8, .inr (.inr (.inr (.inr (fun _ => none)))))), (q_7, .inl (cI, 3, .inl (zL3 5 10 50)))]) hP hD rfl
  clear hP hD
  obtain ⟨hP, hD⟩ := h9R
  refine lv_aload_n hx hb dX0_init_45 rfl (lv_at hl 0 rfl) ?_
  refine lv_iconst (v := 0) hx hb dX0_init_46 (by decide) ?_
  refine va_put (D := D) (ci := 0) (v := .int 0) (ty := .int) (C := RX0) (T := TX0) (N := 9) hx hb hts hi_X0_init_0 tyX0 tyX0_ok nmX0 hown hK hP hD hS 0 rfl rfl 3 (by decide) (hts (.fieldLink RX0 28 "TheLiningsInIt$Jacket" "pullCount" "I") (List.mem_of_getElem? (i := 12) rfl)) (fun _ h9 => h9) rfl (tyX0_ok 3 (Nat.le_of_ble_eq_true rfl)) rfl rfl (Nat.le_of_ble_eq_true rfl) dX0_init_47 (fun H locs hP hD hS => ?_)
  have h9R := zRe (ws' := [(j0, .inr (0, [.ref q_1, .ref q_6, .ref q_7, .int 0, .int 0, .int 0, .int 0, .int 0, .int 0])), (q_1, .inr (6, [.ref q_4, .ref q_5, .int 20, .int 0, .int 3])), (q_4, .inl (cZ, 40, .inl (fun _ => 0))), (q_5, .inl (cI, 40, .inl (fun _ => 0))), (q_6, .inl (cP, 8, .inr (.inr (.inr (.inr (fun _ => none)))))), (q_7, .inl (cI, 3, .inl (zL3 5 10 50)))]) hP hD rfl
  clear hP hD
  obtain ⟨hP, hD⟩ := h9R
  refine lv_aload_n hx hb dX0_init_50 rfl (lv_at hl 0 rfl) ?_
  refine lv_iconst (v := 0) hx hb dX0_init_51 (by decide) ?_
  refine va_put (D := D) (ci := 0) (v := .int 0) (ty := .int) (C := RX0) (T := TX0) (N := 9) hx hb hts hi_X0_init_0 tyX0 tyX0_ok nmX0 hown hK hP hD hS 0 rfl rfl 4 (by decide) (hts (.fieldLink RX0 32 "TheLiningsInIt$Jacket" "depth" "I") (List.mem_of_getElem? (i := 13) rfl)) (fun _ h9 => h9) rfl (tyX0_ok 4 (Nat.le_of_ble_eq_true rfl)) rfl rfl (Nat.le_of_ble_eq_true rfl) dX0_init_52 (fun H locs hP hD hS => ?_)
  have h9R := zRe (ws' := [(j0, .inr (0, [.ref q_1, .ref q_6, .ref q_7, .int 0, .int 0, .int 0, .int 0, .int 0, .int 0])), (q_1, .inr (6, [.ref q_4, .ref q_5, .int 20, .int 0, .int 3])), (q_4, .inl (cZ, 40, .inl (fun _ => 0))), (q_5, .inl (cI, 40, .inl (fun _ => 0))), (q_6, .inl (cP, 8, .inr (.inr (.inr (.inr (fun _ => none)))))), (q_7, .inl (cI, 3, .inl (zL3 5 10 50)))]) hP hD rfl
  clear hP hD
  obtain ⟨hP, hD⟩ := h9R
  refine lv_aload_n hx hb dX0_init_55 rfl (lv_at hl 0 rfl) ?_
  refine lv_iconst (v := 0) hx hb dX0_init_56 (by decide) ?_
  refine va_put (D := D) (ci := 0) (v := .int 0) (ty := .int) (C := RX0) (T := TX0) (N := 9) hx hb hts hi_X0_init_0 tyX0 tyX0_ok nmX0 hown hK hP hD hS 0 rfl rfl 5 (by decide) (hts (.fieldLink RX0 35 "TheLiningsInIt$Jacket" "torn" "I") (List.mem_of_getElem? (i := 14) rfl)) (fun _ h9 => h9) rfl (tyX0_ok 5 (Nat.le_of_ble_eq_true rfl)) rfl rfl (Nat.le_of_ble_eq_true rfl) dX0_init_57 (fun H locs hP hD hS => ?_)
  have h9R := zRe (ws' := [(j0, .inr (0, [.ref q_1, .ref q_6, .ref q_7, .int 0, .int 0, .int 0, .int 0, .int 0, .int 0])), (q_1, .inr (6, [.ref q_4, .ref q_5, .int 20, .int 0, .int 3])), (q_4, .inl (cZ, 40, .inl (fun _ => 0))), (q_5, .inl (cI, 40, .inl (fun _ => 0))), (q_6, .inl (cP, 8, .inr (.inr (.inr (.inr (fun _ => none)))))), (q_7, .inl (cI, 3, .inl (zL3 5 10 50)))]) hP hD rfl
  clear hP hD
  obtain ⟨hP, hD⟩ := h9R
  refine lv_aload_n hx hb dX0_init_60 rfl (lv_at hl 0 rfl) ?_
  refine lv_bipush (v := 60) hx hb dX0_init_61 (by decide) ?_
  refine va_put (D := D) (ci := 0) (v := .int 60) (ty := .int) (C := RX0) (T := TX0) (N := 9) hx hb hts hi_X0_init_0 tyX0 tyX0_ok nmX0 hown hK hP hD hS 0 rfl rfl 6 (by decide) (hts (.fieldLink RX0 38 "TheLiningsInIt$Jacket" "seconds" "I") (List.mem_of_getElem? (i := 15) rfl)) (fun _ h9 => h9) rfl (tyX0_ok 6 (Nat.le_of_ble_eq_true rfl)) rfl rfl (Nat.le_of_ble_eq_true rfl) dX0_init_63 (fun H locs hP hD hS => ?_)
  have h9R := zRe (ws' := [(j0, .inr (0, [.ref q_1, .ref q_6, .ref q_7, .int 0, .int 0, .int 0, .int 60, .int 0, .int 0])), (q_1, .inr (6, [.ref q_4, .ref q_5, .int 20, .int 0, .int 3])), (q_4, .inl (cZ, 40, .inl (fun _ => 0))), (q_5, .inl (cI, 40, .inl (fun _ => 0))), (q_6, .inl (cP, 8, .inr (.inr (.inr (.inr (fun _ => none)))))), (q_7, .inl (cI, 3, .inl (zL3 5 10 50)))]) hP hD rfl
  clear hP hD
  obtain ⟨hP, hD⟩ := h9R
  refine lv_aload_n hx hb dX0_init_66 rfl (lv_at hl 0 rfl) ?_
  refine lv_iconst (v := 0) hx hb dX0_init_67 (by decide) ?_
  refine va_put (D := D) (ci := 0) (v := .int 0) (ty := .int) (C := RX0) (T := TX0) (N := 9) hx hb hts hi_X0_init_0 tyX0 tyX0_ok nmX0 hown hK hP hD hS 0 rfl rfl 7 (by decide) (hts (.fieldLink RX0 41 "TheLiningsInIt$Jacket" "hurry" "I") (List.mem_of_getElem? (i := 16) rfl)) (fun _ h9 => h9) rfl (tyX0_ok 7 (Nat.le_of_ble_eq_true rfl)) rfl rfl (Nat.le_of_ble_eq_true rfl) dX0_init_68 (fun H locs hP hD hS => ?_)
  have h9R := zRe (ws' := [(j0, .inr (0, [.ref q_1, .ref q_6, .ref q_7, .int 0, .int 0, .int 0, .int 60, .int 0, .int 0])), (q_1, .inr (6, [.ref q_4, .ref q_5, .int 20, .int 0, .int 3])), (q_4, .inl (cZ, 40, .inl (fun _ => 0))), (q_5, .inl (cI, 40, .inl (fun _ => 0))), (q_6, .inl (cP, 8, .inr (.inr (.inr (.inr (fun _ => none)))))), (q_7, .inl (cI, 3, .inl (zL3 5 10 50)))]) hP hD rfl
  clear hP hD
  obtain ⟨hP, hD⟩ := h9R
  refine lv_aload_n hx hb dX0_init_71 rfl (lv_at hl 0 rfl) ?_
  refine lv_iconst (v := 1) hx hb dX0_init_72 (by decide) ?_
  refine va_put (D := D) (ci := 0) (v := .int 1) (ty := .int) (C := RX0) (T := TX0) (N := 9) hx hb hts hi_X0_init_0 tyX0 tyX0_ok nmX0 hown hK hP hD hS 0 rfl rfl 8 (by decide) (hts (.fieldLink RX0 44 "TheLiningsInIt$Jacket" "seedNow" "I") (List.mem_of_getElem? (i := 17) rfl)) (fun _ h9 => h9) rfl (tyX0_ok 8 (Nat.le_of_ble_eq_true rfl)) rfl rfl (Nat.le_of_ble_eq_true rfl) dX0_init_73 (fun H locs hP hD hS => ?_)
  have h9R := zRe (ws' := [(j0, .inr (0, [.ref q_1, .ref q_6, .ref q_7, .int 0, .int 0, .int 0, .int 60, .int 0, .int 1])), (q_1, .inr (6, [.ref q_4, .ref q_5, .int 20, .int 0, .int 3])), (q_4, .inl (cZ, 40, .inl (fun _ => 0))), (q_5, .inl (cI, 40, .inl (fun _ => 0))), (q_6, .inl (cP, 8, .inr (.inr (.inr (.inr (fun _ => none)))))), (q_7, .inl (cI, 3, .inl (zL3 5 10 50)))]) hP hD rfl
  clear hP hD
  obtain ⟨hP, hD⟩ := h9R
  refine W.widen (k := 5) (n := 96) (Nat.le_of_ble_eq_true rfl) (Nat.le_of_ble_eq_true rfl) ?_
  exact W.vret hx hb hr (fun t ht hW => ⟨⟨(q_1, q_4, q_5, q_6, q_7), rfl, trivial, zRet ht hP hD [0, 1, 2, 3, 4, 5] (by decide) rfl⟩, hS.F ht⟩) hS.2.2 dX0_init_76
theorem gl_X5_init_X50 : GoodIn wsX5_init wsX50 := (dg_t (dg_t (dg_t (dg_t (dg_t (dg_t (dg_t (dg_t (dg_t (dg_t (dg_t (dg_t (dg_t gw_wsX50)))))))))))))
theorem hi_X5_init_5 : ∀ w ∈ u_ws RX5 TX5 7, w ∈ wsX5_init := fun w h => (gl_X5_init_X50 w h).1
set_option maxHeartbeats 4000000 in
set_option maxRecDepth 100000 in
theorem c_Ways_init (l : Launch) (D : va_G) (cI cJ cZ cP cS : ClassId) (po : zPool) (w0 : Nat)  (hpz : Nat) : Met l yX5_init wsX5_init ({ frames := 1, cells := 4, slots := 261, locals := 12 }) (va_Pc [.ref w0] (zW D (zKT cI cJ cZ cP cS) po [(w0, .inr (5, [.null, .null, .null, .null, .int 0, .int 0, .int 0]))] hpz)) (va_Qv (fun (u : (Nat) × (Nat) × (Nat) × (Nat)) => True) (zB D [(w0, .inr (5, [.null, .null, .null, .null, .int 0, .int 0, .int 0]))] hpz (fun (u : (Nat) × (Nat) × (Nat) × (Nat)) => [(w0, .inr (5, [.ref u.1, .ref u.2.1, .ref u.2.2.1, .ref u.2.2.2, .int 0, .int 0, .int 0])), (u.1, .inl (cI, 125, .inl (fun _ => 0))), (u.2.1, .inl (cI, 125, .inl (fun _ => 0))), (u.2.2.1, .inl (cI, 3, .inl (fun _ => 0))), (u.2.2.2, .inl (cP, 8, .inr (.inr (.inr (.inr (fun _ => none))))))])) (va_A [(w0, .inr (5, [.null, .null, .null, .null, .int 0, .int 0, .int 0]))] hpz)) 4 261 (va_A [(w0, .inr (5, [.null, .null, .null, .null, .int 0, .int 0, .int 0]))] hpz) := by
  refine Met.ofW (cc := cX5_init) (maxL := 1) (ret := none) (by decide) rfl ?_
  intro p e s m args below meth c s₁ B hml hv
  obtain ⟨rfl, hsz, hP, hK, hD0, hN, hZ⟩ := hv
  have hx := B.exec
  have hb := B.bytes
  have hr := B.returns
  have hts := atoms_spec (ws := wsX5_init) B.pre
  have hown : s.vm.findClass RX5 = some m.cls := findClass_of_methodNamed B.named
  have hlocks := B.notSynchronized
  have hin : meth.name = "<init>" := (name_of_methodNamed B.named B.method).1
  subst hsz
  have hD := hD0.self (sz := s.heap.size)
  have hA := zA_of hD
  have hl := lv_entry ([.ref w0]) (n := 1) (Nat.le_of_ble_eq_true rfl)
  rw [lg_entry_eq]
  generalize (lg_sl ([.ref w0]) ++ List.replicate (1 - (lg_sl ([.ref w0])).length) Slot.unset).toArray = ls at hl ⊢
  replace hl : lv_has ls 1 [(0, .ref w0)] := hl
  refine zw_begin hP hD (fun H locs hP1 hS => ?_)
  clear hP
  have hP := hP1
  clear hP1
  refine lv_aload_n hx hb dX5_init_0 rfl (lv_at hl 0 rfl) ?_
  refine W.objInit hx hb hown (hts (.methodLink RX5 3 objectInit) (List.mem_of_getElem? (i := 1) rfl)) (hts _ (List.mem_of_getElem? (i := 2) rfl)) (hts _ (List.mem_of_getElem? (i := 3) rfl)) rfl (by rw [hml]; exact hl.1) rfl dX5_init_1 (Nat.le_of_ble_eq_true rfl) (Nat.le_of_ble_eq_true rfl) ?_
  refine W.eq (g2 := F0 m 4 ls []) rfl ?_
  refine lv_aload_n hx hb dX5_init_4 rfl (lv_at hl 0 rfl) ?_
  refine lv_bipush (v := 125) hx hb dX5_init_5 (by decide) ?_
  refine va_newa hx hb (atype := .int) (hts _ (List.mem_of_getElem? (i := 4) rfl)) rfl hK hP hD hS hA (N' := 125) (a0 := (125, .inl (fun _ => 0))) (fun _ => rfl) (by decide) (by decide) (Nat.le_of_ble_eq_true rfl) (Nat.le_of_ble_eq_true rfl) (Nat.le_of_ble_eq_true rfl) dX5_init_7 (fun q_1 cA H hK1 hP hD hS => ?_)
  obtain rfl : cI = cA := zk_eqI (k := 0) hK rfl hK1
  have h9R := zRe (ws' := [(w0, .inr (5, [.null, .null, .null, .null, .int 0, .int 0, .int 0])), (q_1, .inl (cI, 125, .inl (fun _ => 0)))]) hP hD rfl
  clear hP hD
  obtain ⟨hP, hD⟩ := h9R
  refine W.widen (k := 1) (n := 125) (Nat.le_of_ble_eq_true rfl) (Nat.le_of_ble_eq_true rfl) ?_
  refine va_putF (D := D) (ci := 5) (v := .ref q_1) (ty := (.array .int)) (C := RX5) (T := TX5) (N := 7) hx hb hts hi_X5_init_5 tyX5 tyX5_ok nmX5 hown hK hP hD hS 0 rfl rfl 0 (by decide) (hts (.fieldLink RX5 9 "TheLiningsInIt$Ways" "knownMost" "[I") (List.mem_of_getElem? (i := 5) rfl)) (fun _ h9 => h9) rfl hin rfl (tyX5_ok 0 (Nat.le_of_ble_eq_true rfl)) rfl rfl (Nat.le_of_ble_eq_true rfl) dX5_init_9 (fun H locs hP hD hS => ?_)
  have h9R := zRe (ws' := [(w0, .inr (5, [.ref q_1, .null, .null, .null, .int 0, .int 0, .int 0])), (q_1, .inl (cI, 125, .inl (fun _ => 0)))]) hP hD rfl
  clear hP hD
  obtain ⟨hP, hD⟩ := h9R
  refine lv_aload_n hx hb dX5_init_12 rfl (lv_at hl 0 rfl) ?_
  refine lv_bipush (v := 125) hx hb dX5_init_13 (by decide) ?_
  refine va_newa hx hb (atype := .int) (hts _ (List.mem_of_getElem? (i := 4) rfl)) rfl hK hP hD hS hA (N' := 125) (a0 := (125, .inl (fun _ => 0))) (fun _ => rfl) (by decide) (by decide) (Nat.le_of_ble_eq_true rfl) (Nat.le_of_ble_eq_true rfl) (Nat.le_of_ble_eq_true rfl) dX5_init_15 (fun q_2 cA H hK1 hP hD hS => ?_)
  obtain rfl : cI = cA := zk_eqI (k := 0) hK rfl hK1
  have h9R := zRe (ws' := [(w0, .inr (5, [.ref q_1, .null, .null, .null, .int 0, .int 0, .int 0])), (q_1, .inl (cI, 125, .inl (fun _ => 0))), (q_2, .inl (cI, 125, .inl (fun _ => 0)))]) hP hD rfl
  clear hP hD
  obtain ⟨hP, hD⟩ := h9R
  refine W.widen (k := 2) (n := 250) (Nat.le_of_ble_eq_true rfl) (Nat.le_of_ble_eq_true rfl) ?_
  refine va_putF (D := D) (ci := 5) (v := .ref q_2) (ty := (.array .int)) (C := RX5) (T := TX5) (N := 7) hx hb hts hi_X5_init_5 tyX5 tyX5_ok nmX5 hown hK hP hD hS 0 rfl rfl 1 (by decide) (hts (.fieldLink RX5 15 "TheLiningsInIt$Ways" "knownLeast" "[I") (List.mem_of_getElem? (i := 6) rfl)) (fun _ h9 => h9) rfl hin rfl (tyX5_ok 1 (Nat.le_of_ble_eq_true rfl)) rfl rfl (Nat.le_of_ble_eq_true rfl) dX5_init_17 (fun H locs hP hD hS => ?_)
  have h9R := zRe (ws' := [(w0, .inr (5, [.ref q_1, .ref q_2, .null, .null, .int 0, .int 0, .int 0])), (q_1, .inl (cI, 125, .inl (fun _ => 0))), (q_2, .inl (cI, 125, .inl (fun _ => 0)))]) hP hD rfl
  clear hP hD
  obtain ⟨hP, hD⟩ := h9R
  refine lv_aload_n hx hb dX5_init_20 rfl (lv_at hl 0 rfl) ?_
  refine lv_iconst (v := 3) hx hb dX5_init_21 (by decide) ?_
  refine va_newa hx hb (atype := .int) (hts _ (List.mem_of_getElem? (i := 4) rfl)) rfl hK hP hD hS hA (N' := 3) (a0 := (3, .inl (fun _ => 0))) (fun _ => rfl) (by decide) (by decide) (Nat.le_of_ble_eq_true rfl) (Nat.le_of_ble_eq_true rfl) (Nat.le_of_ble_eq_true rfl) dX5_init_22 (fun q_3 cA H hK1 hP hD hS => ?_)
  obtain rfl : cI = cA := zk_eqI (k := 0) hK rfl hK1
  have h9R := zRe (ws' := [(w0, .inr (5, [.ref q_1, .ref q_2, .null, .null, .int 0, .int 0, .int 0])), (q_1, .inl (cI, 125, .inl (fun _ => 0))), (q_2, .inl (cI, 125, .inl (fun _ => 0))), (q_3, .inl (cI, 3, .inl (fun _ => 0)))]) hP hD rfl
  clear hP hD
  obtain ⟨hP, hD⟩ := h9R
  refine W.widen (k := 3) (n := 253) (Nat.le_of_ble_eq_true rfl) (Nat.le_of_ble_eq_true rfl) ?_
  refine va_putF (D := D) (ci := 5) (v := .ref q_3) (ty := (.array .int)) (C := RX5) (T := TX5) (N := 7) hx hb hts hi_X5_init_5 tyX5 tyX5_ok nmX5 hown hK hP hD hS 0 rfl rfl 2 (by decide) (hts (.fieldLink RX5 18 "TheLiningsInIt$Ways" "costs" "[I") (List.mem_of_getElem? (i := 7) rfl)) (fun _ h9 => h9) rfl hin rfl (tyX5_ok 2 (Nat.le_of_ble_eq_true rfl)) rfl rfl (Nat.le_of_ble_eq_true rfl) dX5_init_24 (fun H locs hP hD hS => ?_)
  have h9R := zRe (ws' := [(w0, .inr (5, [.ref q_1, .ref q_2, .ref q_3, .null, .int 0, .int 0, .int 0])), (q_1, .inl (cI, 125, .inl (fun _ => 0))), (q_2, .inl (cI, 125, .inl (fun _ => 0))), (q_3, .inl (cI, 3, .inl (fun _ => 0)))]) hP hD rfl
  clear hP hD
  obtain ⟨hP, hD⟩ := h9R
  refine lv_aload_n hx hb dX5_init_27 rfl (lv_at hl 0 rfl) ?_
  refine lv_bipush (v := 8) hx hb dX5_init_28 (by decide) ?_
  refine va_newq hx hb hown (hts (.classLink RX5 21 RX2) (List.mem_of_getElem? (i := 8) rfl)) hN.2.2.1 hK hP hD hS hA (N' := 8) (by decide) (by decide) (Nat.le_of_ble_eq_true rfl) (Nat.le_of_ble_eq_true rfl) (Nat.le_of_ble_eq_true rfl) dX5_init_30 (fun q_4 cA H hK1 hP hD hS => ?_)
  obtain rfl : cP = cA := zk_eqO (k := 3) hK rfl hK1
  have h9R := zRe (ws' := [(w0, .inr (5, [.ref q_1, .ref q_2, .ref q_3, .null, .int 0, .int 0, .int 0])), (q_1, .inl (cI, 125, .inl (fun _ => 0))), (q_2, .inl (cI, 125, .inl (fun _ => 0))), (q_3, .inl (cI, 3, .inl (fun _ => 0))), (q_4, .inl (cP, 8, .inr (.inr (.inr (.inr (fun _ => none))))))]) hP hD rfl
  clear hP hD
  obtain ⟨hP, hD⟩ := h9R
  refine W.widen (k := 4) (n := 261) (Nat.le_of_ble_eq_true rfl) (Nat.le_of_ble_eq_true rfl) ?_
  refine va_putF (D := D) (ci := 5) (v := .ref q_4) (ty := (.array (.object "TheLiningsInIt$Pull"))) (C := RX5) (T := TX5) (N := 7) hx hb hts hi_X5_init_5 tyX5 tyX5_ok nmX5 hown hK hP hD hS 0 rfl rfl 3 (by decide) (hts (.fieldLink RX5 23 "TheLiningsInIt$Ways" "pulls" "[LTheLiningsInIt$Pull;") (List.mem_of_getElem? (i := 9) rfl)) (fun _ h9 => h9) rfl hin rfl (tyX5_ok 3 (Nat.le_of_ble_eq_true rfl)) rfl rfl (Nat.le_of_ble_eq_true rfl) dX5_init_33 (fun H locs hP hD hS => ?_)
  have h9R := zRe (ws' := [(w0, .inr (5, [.ref q_1, .ref q_2, .ref q_3, .ref q_4, .int 0, .int 0, .int 0])), (q_1, .inl (cI, 125, .inl (fun _ => 0))), (q_2, .inl (cI, 125, .inl (fun _ => 0))), (q_3, .inl (cI, 3, .inl (fun _ => 0))), (q_4, .inl (cP, 8, .inr (.inr (.inr (.inr (fun _ => none))))))]) hP hD rfl
  clear hP hD
  obtain ⟨hP, hD⟩ := h9R
  refine lv_aload_n hx hb dX5_init_36 rfl (lv_at hl 0 rfl) ?_
  refine lv_iconst (v := 0) hx hb dX5_init_37 (by decide) ?_
  refine va_put (D := D) (ci := 5) (v := .int 0) (ty := .int) (C := RX5) (T := TX5) (N := 7) hx hb hts hi_X5_init_5 tyX5 tyX5_ok nmX5 hown hK hP hD hS 0 rfl rfl 4 (by decide) (hts (.fieldLink RX5 27 "TheLiningsInIt$Ways" "count" "I") (List.mem_of_getElem? (i := 10) rfl)) (fun _ h9 => h9) rfl (tyX5_ok 4 (Nat.le_of_ble_eq_true rfl)) rfl rfl (Nat.le_of_ble_eq_true rfl) dX5_init_38 (fun H locs hP hD hS => ?_)
  have h9R := zRe (ws' := [(w0, .inr (5, [.ref q_1, .ref q_2, .ref q_3, .ref q_4, .int 0, .int 0, .int 0])), (q_1, .inl (cI, 125, .inl (fun _ => 0))), (q_2, .inl (cI, 125, .inl (fun _ => 0))), (q_3, .inl (cI, 3, .inl (fun _ => 0))), (q_4, .inl (cP, 8, .inr (.inr (.inr (.inr (fun _ => none))))))]) hP hD rfl
  clear hP hD
  obtain ⟨hP, hD⟩ := h9R
  refine lv_aload_n hx hb dX5_init_41 rfl (lv_at hl 0 rfl) ?_
  refine lv_iconst (v := 0) hx hb dX5_init_42 (by decide) ?_
  refine va_put (D := D) (ci := 5) (v := .int 0) (ty := .int) (C := RX5) (T := TX5) (N := 7) hx hb hts hi_X5_init_5 tyX5 tyX5_ok nmX5 hown hK hP hD hS 0 rfl rfl 5 (by decide) (hts (.fieldLink RX5 31 "TheLiningsInIt$Ways" "hurry" "I") (List.mem_of_getElem? (i := 11) rfl)) (fun _ h9 => h9) rfl (tyX5_ok 5 (Nat.le_of_ble_eq_true rfl)) rfl rfl (Nat.le_of_ble_eq_true rfl) dX5_init_43 (fun H locs hP hD hS => ?_)
  have h9R := zRe (ws' := [(w0, .inr (5, [.ref q_1, .ref q_2, .ref q_3, .ref q_4, .int 0, .int 0, .int 0])), (q_1, .inl (cI, 125, .inl (fun _ => 0))), (q_2, .inl (cI, 125, .inl (fun _ => 0))), (q_3, .inl (cI, 3, .inl (fun _ => 0))), (q_4, .inl (cP, 8, .inr (.inr (.inr (.inr (fun _ => none))))))]) hP hD rfl
  clear hP hD
  obtain ⟨hP, hD⟩ := h9R
  refine lv_aload_n hx hb dX5_init_46 rfl (lv_at hl 0 rfl) ?_
  refine lv_iconst (v := 0) hx hb dX5_init_47 (by decide) ?_
  refine va_put (D := D) (ci := 5) (v := .int 0) (ty := .int) (C := RX5) (T := TX5) (N := 7) hx hb hts hi_X5_init_5 tyX5 tyX5_ok nmX5 hown hK hP hD hS 0 rfl rfl 6 (by decide) (hts (.fieldLink RX5 34 "TheLiningsInIt$Ways" "longest" "I") (List.mem_of_getElem? (i := 12) rfl)) (fun _ h9 => h9) rfl (tyX5_ok 6 (Nat.le_of_ble_eq_true rfl)) rfl rfl (Nat.le_of_ble_eq_true rfl) dX5_init_48 (fun H locs hP hD hS => ?_)
  have h9R := zRe (ws' := [(w0, .inr (5, [.ref q_1, .ref q_2, .ref q_3, .ref q_4, .int 0, .int 0, .int 0])), (q_1, .inl (cI, 125, .inl (fun _ => 0))), (q_2, .inl (cI, 125, .inl (fun _ => 0))), (q_3, .inl (cI, 3, .inl (fun _ => 0))), (q_4, .inl (cP, 8, .inr (.inr (.inr (.inr (fun _ => none))))))]) hP hD rfl
  clear hP hD
  obtain ⟨hP, hD⟩ := h9R
  refine W.widen (k := 4) (n := 261) (Nat.le_of_ble_eq_true rfl) (Nat.le_of_ble_eq_true rfl) ?_
  exact W.vret hx hb hr (fun t ht hW => ⟨⟨(q_1, q_2, q_3, q_4), rfl, trivial, zRet ht hP hD [0, 1, 2, 3, 4] (by decide) rfl⟩, hS.F ht⟩) hS.2.2 dX5_init_51
theorem gl_X3_init_X30 : GoodIn wsX3_init wsX30 := (dg_t (dg_t (dg_t (dg_t (dg_t (dg_t (dg_t (dg_t (dg_t (dg_t (dg_t (dg_t (dg_t gw_wsX30)))))))))))))
theorem hi_X3_init_3 : ∀ w ∈ u_ws RX3 TX3 8, w ∈ wsX3_init := fun w h => (gl_X3_init_X30 w h).1
set_option maxHeartbeats 4000000 in
set_option maxRecDepth 100000 in
theorem c_Reader_init (l : Launch) (D : va_G) (cI cJ cZ cP cS : ClassId) (po : zPool) (rd : Nat)  (hpz : Nat) : Met l yX3_init wsX3_init ({ frames := 1, cells := 2, slots := 292, locals := 12 }) (va_Pc [.ref rd] (zW D (zKT cI cJ cZ cP cS) po [(rd, .inr (3, [.null, .null, .int 0, .int 0, .int 0, .int 0, .int 0, .int 0]))] hpz)) (va_Qv (fun (u : (Nat) × (Nat)) => True) (zB D [(rd, .inr (3, [.null, .null, .int 0, .int 0, .int 0, .int 0, .int 0, .int 0]))] hpz (fun (u : (Nat) × (Nat)) => [(rd, .inr (3, [.ref u.1, .ref u.2, .int 0, .int 0, .int 0, .int (-1), .int 0, .int 0])), (u.1, .inl (cI, 132, .inl (fun _ => 0))), (u.2, .inl (cI, 160, .inl (fun _ => 0)))])) (va_A [(rd, .inr (3, [.null, .null, .int 0, .int 0, .int 0, .int 0, .int 0, .int 0]))] hpz)) 2 292 (va_A [(rd, .inr (3, [.null, .null, .int 0, .int 0, .int 0, .int 0, .int 0, .int 0]))] hpz) := by
  refine Met.ofW (cc := cX3_init) (maxL := 1) (ret := none) (by decide) rfl ?_
  intro p e s m args below meth c s₁ B hml hv
  obtain ⟨rfl, hsz, hP, hK, hD0, hN, hZ⟩ := hv
  have hx := B.exec
  have hb := B.bytes
  have hr := B.returns
  have hts := atoms_spec (ws := wsX3_init) B.pre
  have hown : s.vm.findClass RX3 = some m.cls := findClass_of_methodNamed B.named
  have hlocks := B.notSynchronized
  have hin : meth.name = "<init>" := (name_of_methodNamed B.named B.method).1
  subst hsz
  have hD := hD0.self (sz := s.heap.size)
  have hA := zA_of hD
  have hl := lv_entry ([.ref rd]) (n := 1) (Nat.le_of_ble_eq_true rfl)
  rw [lg_entry_eq]
  generalize (lg_sl ([.ref rd]) ++ List.replicate (1 - (lg_sl ([.ref rd])).length) Slot.unset).toArray = ls at hl ⊢
  replace hl : lv_has ls 1 [(0, .ref rd)] := hl
  refine zw_begin hP hD (fun H locs hP1 hS => ?_)
  clear hP
  have hP := hP1
  clear hP1
  refine lv_aload_n hx hb dX3_init_0 rfl (lv_at hl 0 rfl) ?_
  refine W.objInit hx hb hown (hts (.methodLink RX3 3 objectInit) (List.mem_of_getElem? (i := 1) rfl)) (hts _ (List.mem_of_getElem? (i := 2) rfl)) (hts _ (List.mem_of_getElem? (i := 3) rfl)) rfl (by rw [hml]; exact hl.1) rfl dX3_init_1 (Nat.le_of_ble_eq_true rfl) (Nat.le_of_ble_eq_true rfl) ?_
  refine W.eq (g2 := F0 m 4 ls []) rfl ?_
  refine lv_aload_n hx hb dX3_init_4 rfl (lv_at hl 0 rfl) ?_
  refine lv_sipush (v := 132) hx hb dX3_init_5 (by decide) ?_
  refine va_newa hx hb (atype := .int) (hts _ (List.mem_of_getElem? (i := 4) rfl)) rfl hK hP hD hS hA (N' := 132) (a0 := (132, .inl (fun _ => 0))) (fun _ => rfl) (by decide) (by decide) (Nat.le_of_ble_eq_true rfl) (Nat.le_of_ble_eq_true rfl) (Nat.le_of_ble_eq_true rfl) dX3_init_8 (fun q_1 cA H hK1 hP hD hS => ?_)
  obtain rfl : cI = cA := zk_eqI (k := 0) hK rfl hK1
  have h9R := zRe (ws' := [(rd, .inr (3, [.null, .null, .int 0, .int 0, .int 0, .int 0, .int 0, .int 0])), (q_1, .inl (cI, 132, .inl (fun _ => 0)))]) hP hD rfl
  clear hP hD
  obtain ⟨hP, hD⟩ := h9R
  refine W.widen (k := 1) (n := 132) (Nat.le_of_ble_eq_true rfl) (Nat.le_of_ble_eq_true rfl) ?_
  refine va_putF (D := D) (ci := 3) (v := .ref q_1) (ty := (.array .int)) (C := RX3) (T := TX3) (N := 8) hx hb hts hi_X3_init_3 tyX3 tyX3_ok nmX3 hown hK hP hD hS 0 rfl rfl 0 (by decide) (hts (.fieldLink RX3 11 "TheLiningsInIt$Reader" "items" "[I") (List.mem_of_getElem? (i := 5) rfl)) (fun _ h9 => h9) rfl hin rfl (tyX3_ok 0 (Nat.le_of_ble_eq_true rfl)) rfl rfl (Nat.le_of_ble_eq_true rfl) dX3_init_10 (fun H locs hP hD hS => ?_)
  have h9R := zRe (ws' := [(rd, .inr (3, [.ref q_1, .null, .int 0, .int 0, .int 0, .int 0, .int 0, .int 0])), (q_1, .inl (cI, 132, .inl (fun _ => 0)))]) hP hD rfl
  clear hP hD
  obtain ⟨hP, hD⟩ := h9R
  refine lv_aload_n hx hb dX3_init_13 rfl (lv_at hl 0 rfl) ?_
  refine lv_sipush (v := 160) hx hb dX3_init_14 (by decide) ?_
  refine va_newa hx hb (atype := .int) (hts _ (List.mem_of_getElem? (i := 4) rfl)) rfl hK hP hD hS hA (N' := 160) (a0 := (160, .inl (fun _ => 0))) (fun _ => rfl) (by decide) (by decide) (Nat.le_of_ble_eq_true rfl) (Nat.le_of_ble_eq_true rfl) (Nat.le_of_ble_eq_true rfl) dX3_init_17 (fun q_2 cA H hK1 hP hD hS => ?_)
  obtain rfl : cI = cA := zk_eqI (k := 0) hK rfl hK1
  have h9R := zRe (ws' := [(rd, .inr (3, [.ref q_1, .null, .int 0, .int 0, .int 0, .int 0, .int 0, .int 0])), (q_1, .inl (cI, 132, .inl (fun _ => 0))), (q_2, .inl (cI, 160, .inl (fun _ => 0)))]) hP hD rfl
  clear hP hD
  obtain ⟨hP, hD⟩ := h9R
  refine W.widen (k := 2) (n := 292) (Nat.le_of_ble_eq_true rfl) (Nat.le_of_ble_eq_true rfl) ?_
  refine va_putF (D := D) (ci := 3) (v := .ref q_2) (ty := (.array .int)) (C := RX3) (T := TX3) (N := 8) hx hb hts hi_X3_init_3 tyX3 tyX3_ok nmX3 hown hK hP hD hS 0 rfl rfl 1 (by decide) (hts (.fieldLink RX3 15 "TheLiningsInIt$Reader" "letters" "[I") (List.mem_of_getElem? (i := 6) rfl)) (fun _ h9 => h9) rfl hin rfl (tyX3_ok 1 (Nat.le_of_ble_eq_true rfl)) rfl rfl (Nat.le_of_ble_eq_true rfl) dX3_init_19 (fun H locs hP hD hS => ?_)
  have h9R := zRe (ws' := [(rd, .inr (3, [.ref q_1, .ref q_2, .int 0, .int 0, .int 0, .int 0, .int 0, .int 0])), (q_1, .inl (cI, 132, .inl (fun _ => 0))), (q_2, .inl (cI, 160, .inl (fun _ => 0)))]) hP hD rfl
  clear hP hD
  obtain ⟨hP, hD⟩ := h9R
  refine lv_aload_n hx hb dX3_init_22 rfl (lv_at hl 0 rfl) ?_
  refine lv_iconst (v := 0) hx hb dX3_init_23 (by decide) ?_
  refine va_put (D := D) (ci := 3) (v := .int 0) (ty := .int) (C := RX3) (T := TX3) (N := 8) hx hb hts hi_X3_init_3 tyX3 tyX3_ok nmX3 hown hK hP hD hS 0 rfl rfl 2 (by decide) (hts (.fieldLink RX3 18 "TheLiningsInIt$Reader" "size" "I") (List.mem_of_getElem? (i := 7) rfl)) (fun _ h9 => h9) rfl (tyX3_ok 2 (Nat.le_of_ble_eq_true rfl)) rfl rfl (Nat.le_of_ble_eq_true rfl) dX3_init_24 (fun H locs hP hD hS => ?_)
  have h9R := zRe (ws' := [(rd, .inr (3, [.ref q_1, .ref q_2, .int 0, .int 0, .int 0, .int 0, .int 0, .int 0])), (q_1, .inl (cI, 132, .inl (fun _ => 0))), (q_2, .inl (cI, 160, .inl (fun _ => 0)))]) hP hD rfl
  clear hP hD
  obtain ⟨hP, hD⟩ := h9R
  refine lv_aload_n hx hb dX3_init_27 rfl (lv_at hl 0 rfl) ?_
  refine lv_iconst (v := 0) hx hb dX3_init_28 (by decide) ?_
  refine va_put (D := D) (ci := 3) (v := .int 0) (ty := .int) (C := RX3) (T := TX3) (N := 8) hx hb hts hi_X3_init_3 tyX3 tyX3_ok nmX3 hown hK hP hD hS 0 rfl rfl 3 (by decide) (hts (.fieldLink RX3 22 "TheLiningsInIt$Reader" "count" "I") (List.mem_of_getElem? (i := 8) rfl)) (fun _ h9 => h9) rfl (tyX3_ok 3 (Nat.le_of_ble_eq_true rfl)) rfl rfl (Nat.le_of_ble_eq_true rfl) dX3_init_29 (fun H locs hP hD hS => ?_)
  have h9R := zRe (ws' := [(rd, .inr (3, [.ref q_1, .ref q_2, .int 0, .int 0, .int 0, .int 0, .int 0, .int 0])), (q_1, .inl (cI, 132, .inl (fun _ => 0))), (q_2, .inl (cI, 160, .inl (fun _ => 0)))]) hP hD rfl
  clear hP hD
  obtain ⟨hP, hD⟩ := h9R
  refine lv_aload_n hx hb dX3_init_32 rfl (lv_at hl 0 rfl) ?_
  refine lv_iconst (v := 0) hx hb dX3_init_33 (by decide) ?_
  refine va_put (D := D) (ci := 3) (v := .int 0) (ty := .int) (C := RX3) (T := TX3) (N := 8) hx hb hts hi_X3_init_3 tyX3 tyX3_ok nmX3 hown hK hP hD hS 0 rfl rfl 4 (by decide) (hts (.fieldLink RX3 25 "TheLiningsInIt$Reader" "place" "I") (List.mem_of_getElem? (i := 9) rfl)) (fun _ h9 => h9) rfl (tyX3_ok 4 (Nat.le_of_ble_eq_true rfl)) rfl rfl (Nat.le_of_ble_eq_true rfl) dX3_init_34 (fun H locs hP hD hS => ?_)
  have h9R := zRe (ws' := [(rd, .inr (3, [.ref q_1, .ref q_2, .int 0, .int 0, .int 0, .int 0, .int 0, .int 0])), (q_1, .inl (cI, 132, .inl (fun _ => 0))), (q_2, .inl (cI, 160, .inl (fun _ => 0)))]) hP hD rfl
  clear hP hD
  obtain ⟨hP, hD⟩ := h9R
  refine lv_aload_n hx hb dX3_init_37 rfl (lv_at hl 0 rfl) ?_
  refine lv_iconst (v := (-1)) hx hb dX3_init_38 (by decide) ?_
  refine va_put (D := D) (ci := 3) (v := .int (-1)) (ty := .int) (C := RX3) (T := TX3) (N := 8) hx hb hts hi_X3_init_3 tyX3 tyX3_ok nmX3 hown hK hP hD hS 0 rfl rfl 5 (by decide) (hts (.fieldLink RX3 28 "TheLiningsInIt$Reader" "fault" "I") (List.mem_of_getElem? (i := 10) rfl)) (fun _ h9 => h9) rfl (tyX3_ok 5 (Nat.le_of_ble_eq_true rfl)) rfl rfl (Nat.le_of_ble_eq_true rfl) dX3_init_39 (fun H locs hP hD hS => ?_)
  have h9R := zRe (ws' := [(rd, .inr (3, [.ref q_1, .ref q_2, .int 0, .int 0, .int 0, .int (-1), .int 0, .int 0])), (q_1, .inl (cI, 132, .inl (fun _ => 0))), (q_2, .inl (cI, 160, .inl (fun _ => 0)))]) hP hD rfl
  clear hP hD
  obtain ⟨hP, hD⟩ := h9R
  refine lv_aload_n hx hb dX3_init_42 rfl (lv_at hl 0 rfl) ?_
  refine lv_iconst (v := 0) hx hb dX3_init_43 (by decide) ?_
  refine va_put (D := D) (ci := 3) (v := .int 0) (ty := .int) (C := RX3) (T := TX3) (N := 8) hx hb hts hi_X3_init_3 tyX3 tyX3_ok nmX3 hown hK hP hD hS 0 rfl rfl 6 (by decide) (hts (.fieldLink RX3 31 "TheLiningsInIt$Reader" "teeth" "I") (List.mem_of_getElem? (i := 11) rfl)) (fun _ h9 => h9) rfl (tyX3_ok 6 (Nat.le_of_ble_eq_true rfl)) rfl rfl (Nat.le_of_ble_eq_true rfl) dX3_init_44 (fun H locs hP hD hS => ?_)
  have h9R := zRe (ws' := [(rd, .inr (3, [.ref q_1, .ref q_2, .int 0, .int 0, .int 0, .int (-1), .int 0, .int 0])), (q_1, .inl (cI, 132, .inl (fun _ => 0))), (q_2, .inl (cI, 160, .inl (fun _ => 0)))]) hP hD rfl
  clear hP hD
  obtain ⟨hP, hD⟩ := h9R
  refine lv_aload_n hx hb dX3_init_47 rfl (lv_at hl 0 rfl) ?_
  refine lv_iconst (v := 0) hx hb dX3_init_48 (by decide) ?_
  refine va_put (D := D) (ci := 3) (v := .int 0) (ty := .int) (C := RX3) (T := TX3) (N := 8) hx hb hts hi_X3_init_3 tyX3 tyX3_ok nmX3 hown hK hP hD hS 0 rfl rfl 7 (by decide) (hts (.fieldLink RX3 34 "TheLiningsInIt$Reader" "pulls" "I") (List.mem_of_getElem? (i := 12) rfl)) (fun _ h9 => h9) rfl (tyX3_ok 7 (Nat.le_of_ble_eq_true rfl)) rfl rfl (Nat.le_of_ble_eq_true rfl) dX3_init_49 (fun H locs hP hD hS => ?_)
  have h9R := zRe (ws' := [(rd, .inr (3, [.ref q_1, .ref q_2, .int 0, .int 0, .int 0, .int (-1), .int 0, .int 0])), (q_1, .inl (cI, 132, .inl (fun _ => 0))), (q_2, .inl (cI, 160, .inl (fun _ => 0)))]) hP hD rfl
  clear hP hD
  obtain ⟨hP, hD⟩ := h9R
  refine W.widen (k := 2) (n := 292) (Nat.le_of_ble_eq_true rfl) (Nat.le_of_ble_eq_true rfl) ?_
  exact W.vret hx hb hr (fun t ht hW => ⟨⟨(q_1, q_2), rfl, trivial, zRet ht hP hD [0, 1, 2] (by decide) rfl⟩, hS.F ht⟩) hS.2.2 dX3_init_52
theorem gl_X1_init_X10 : GoodIn wsX1_init wsX10 := (dg_t (dg_t (dg_t (dg_t (dg_t (dg_t (dg_t (dg_t (dg_t (dg_t gw_wsX10))))))))))
theorem hi_X1_init_1 : ∀ w ∈ u_ws RX1 TX1 5, w ∈ wsX1_init := fun w h => (gl_X1_init_X10 w h).1
set_option maxHeartbeats 4000000 in
set_option maxRecDepth 100000 in
theorem c_Moves_init (l : Launch) (D : va_G) (cI cJ cZ cP cS : ClassId) (po : zPool) (mv : Nat)  (hpz : Nat) : Met l yX1_init wsX1_init ({ frames := 1, cells := 1, slots := 20, locals := 12 }) (va_Pc [.ref mv] (zW D (zKT cI cJ cZ cP cS) po [(mv, .inr (1, [.null, .int 0, .int 0, .int 0, .int 0]))] hpz)) (va_Qv (fun (q_1 : (Nat)) => True) (zB D [(mv, .inr (1, [.null, .int 0, .int 0, .int 0, .int 0]))] hpz (fun (q_1 : Nat) => [(mv, .inr (1, [.ref q_1, .int 0, .int 0, .int 0, .int 0])), (q_1, .inl (cI, 20, .inl (fun _ => 0)))])) (va_A [(mv, .inr (1, [.null, .int 0, .int 0, .int 0, .int 0]))] hpz)) 1 20 (va_A [(mv, .inr (1, [.null, .int 0, .int 0, .int 0, .int 0]))] hpz) := by
  refine Met.ofW (cc := cX1_init) (maxL := 1) (ret := none) (by decide) rfl ?_
  intro p e s m args below meth c s₁ B hml hv
  obtain ⟨rfl, hsz, hP, hK, hD0, hN, hZ⟩ := hv
  have hx := B.exec
  have hb := B.bytes
  have hr := B.returns
  have hts := atoms_spec (ws := wsX1_init) B.pre
  have hown : s.vm.findClass RX1 = some m.cls := findClass_of_methodNamed B.named
  have hlocks := B.notSynchronized
  have hin : meth.name = "<init>" := (name_of_methodNamed B.named B.method).1
  subst hsz
  have hD := hD0.self (sz := s.heap.size)
  have hA := zA_of hD
  have hl := lv_entry ([.ref mv]) (n := 1) (Nat.le_of_ble_eq_true rfl)
  rw [lg_entry_eq]
  generalize (lg_sl ([.ref mv]) ++ List.replicate (1 - (lg_sl ([.ref mv])).length) Slot.unset).toArray = ls at hl ⊢
  replace hl : lv_has ls 1 [(0, .ref mv)] := hl
  refine zw_begin hP hD (fun H locs hP1 hS => ?_)
  clear hP
  have hP := hP1
  clear hP1
  refine lv_aload_n hx hb dX1_init_0 rfl (lv_at hl 0 rfl) ?_
  refine W.objInit hx hb hown (hts (.methodLink RX1 3 objectInit) (List.mem_of_getElem? (i := 1) rfl)) (hts _ (List.mem_of_getElem? (i := 2) rfl)) (hts _ (List.mem_of_getElem? (i := 3) rfl)) rfl (by rw [hml]; exact hl.1) rfl dX1_init_1 (Nat.le_of_ble_eq_true rfl) (Nat.le_of_ble_eq_true rfl) ?_
  refine W.eq (g2 := F0 m 4 ls []) rfl ?_
  refine lv_aload_n hx hb dX1_init_4 rfl (lv_at hl 0 rfl) ?_
  refine lv_bipush (v := 20) hx hb dX1_init_5 (by decide) ?_
  refine va_newa hx hb (atype := .int) (hts _ (List.mem_of_getElem? (i := 4) rfl)) rfl hK hP hD hS hA (N' := 20) (a0 := (20, .inl (fun _ => 0))) (fun _ => rfl) (by decide) (by decide) (Nat.le_of_ble_eq_true rfl) (Nat.le_of_ble_eq_true rfl) (Nat.le_of_ble_eq_true rfl) dX1_init_7 (fun q_1 cA H hK1 hP hD hS => ?_)
  obtain rfl : cI = cA := zk_eqI (k := 0) hK rfl hK1
  have h9R := zRe (ws' := [(mv, .inr (1, [.null, .int 0, .int 0, .int 0, .int 0])), (q_1, .inl (cI, 20, .inl (fun _ => 0)))]) hP hD rfl
  clear hP hD
  obtain ⟨hP, hD⟩ := h9R
  refine W.widen (k := 1) (n := 20) (Nat.le_of_ble_eq_true rfl) (Nat.le_of_ble_eq_true rfl) ?_
  refine va_putF (D := D) (ci := 1) (v := .ref q_1) (ty := (.array .int)) (C := RX1) (T := TX1) (N := 5) hx hb hts hi_X1_init_1 tyX1 tyX1_ok nmX1 hown hK hP hD hS 0 rfl rfl 0 (by decide) (hts (.fieldLink RX1 11 "TheLiningsInIt$Moves" "bodies" "[I") (List.mem_of_getElem? (i := 5) rfl)) (fun _ h9 => h9) rfl hin rfl (tyX1_ok 0 (Nat.le_of_ble_eq_true rfl)) rfl rfl (Nat.le_of_ble_eq_true rfl) dX1_init_9 (fun H locs hP hD hS => ?_)
  have h9R := zRe (ws' := [(mv, .inr (1, [.ref q_1, .int 0, .int 0, .int 0, .int 0])), (q_1, .inl (cI, 20, .inl (fun _ => 0)))]) hP hD rfl
  clear hP hD
  obtain ⟨hP, hD⟩ := h9R
  refine lv_aload_n hx hb dX1_init_12 rfl (lv_at hl 0 rfl) ?_
  refine lv_iconst (v := 0) hx hb dX1_init_13 (by decide) ?_
  refine va_put (D := D) (ci := 1) (v := .int 0) (ty := .int) (C := RX1) (T := TX1) (N := 5) hx hb hts hi_X1_init_1 tyX1 tyX1_ok nmX1 hown hK hP hD hS 0 rfl rfl 1 (by decide) (hts (.fieldLink RX1 15 "TheLiningsInIt$Moves" "ran" "I") (List.mem_of_getElem? (i := 6) rfl)) (fun _ h9 => h9) rfl (tyX1_ok 1 (Nat.le_of_ble_eq_true rfl)) rfl rfl (Nat.le_of_ble_eq_true rfl) dX1_init_14 (fun H locs hP hD hS => ?_)
  have h9R := zRe (ws' := [(mv, .inr (1, [.ref q_1, .int 0, .int 0, .int 0, .int 0])), (q_1, .inl (cI, 20, .inl (fun _ => 0)))]) hP hD rfl
  clear hP hD
  obtain ⟨hP, hD⟩ := h9R
  refine lv_aload_n hx hb dX1_init_17 rfl (lv_at hl 0 rfl) ?_
  refine lv_iconst (v := 0) hx hb dX1_init_18 (by decide) ?_
  refine va_put (D := D) (ci := 1) (v := .int 0) (ty := .int) (C := RX1) (T := TX1) (N := 5) hx hb hts hi_X1_init_1 tyX1 tyX1_ok nmX1 hown hK hP hD hS 0 rfl rfl 2 (by decide) (hts (.fieldLink RX1 19 "TheLiningsInIt$Moves" "kind" "I") (List.mem_of_getElem? (i := 7) rfl)) (fun _ h9 => h9) rfl (tyX1_ok 2 (Nat.le_of_ble_eq_true rfl)) rfl rfl (Nat.le_of_ble_eq_true rfl) dX1_init_19 (fun H locs hP hD hS => ?_)
  have h9R := zRe (ws' := [(mv, .inr (1, [.ref q_1, .int 0, .int 0, .int 0, .int 0])), (q_1, .inl (cI, 20, .inl (fun _ => 0)))]) hP hD rfl
  clear hP hD
  obtain ⟨hP, hD⟩ := h9R
  refine lv_aload_n hx hb dX1_init_22 rfl (lv_at hl 0 rfl) ?_
  refine lv_iconst (v := 0) hx hb dX1_init_23 (by decide) ?_
  refine va_put (D := D) (ci := 1) (v := .int 0) (ty := .int) (C := RX1) (T := TX1) (N := 5) hx hb hts hi_X1_init_1 tyX1 tyX1_ok nmX1 hown hK hP hD hS 0 rfl rfl 3 (by decide) (hts (.fieldLink RX1 22 "TheLiningsInIt$Moves" "m" "I") (List.mem_of_getElem? (i := 8) rfl)) (fun _ h9 => h9) rfl (tyX1_ok 3 (Nat.le_of_ble_eq_true rfl)) rfl rfl (Nat.le_of_ble_eq_true rfl) dX1_init_24 (fun H locs hP hD hS => ?_)
  have h9R := zRe (ws' := [(mv, .inr (1, [.ref q_1, .int 0, .int 0, .int 0, .int 0])), (q_1, .inl (cI, 20, .inl (fun _ => 0)))]) hP hD rfl
  clear hP hD
  obtain ⟨hP, hD⟩ := h9R
  refine lv_aload_n hx hb dX1_init_27 rfl (lv_at hl 0 rfl) ?_
  refine lv_iconst (v := 0) hx hb dX1_init_28 (by decide) ?_
  refine va_put (D := D) (ci := 1) (v := .int 0) (ty := .int) (C := RX1) (T := TX1) (N := 5) hx hb hts hi_X1_init_1 tyX1 tyX1_ok nmX1 hown hK hP hD hS 0 rfl rfl 4 (by decide) (hts (.fieldLink RX1 25 "TheLiningsInIt$Moves" "k" "I") (List.mem_of_getElem? (i := 9) rfl)) (fun _ h9 => h9) rfl (tyX1_ok 4 (Nat.le_of_ble_eq_true rfl)) rfl rfl (Nat.le_of_ble_eq_true rfl) dX1_init_29 (fun H locs hP hD hS => ?_)
  have h9R := zRe (ws' := [(mv, .inr (1, [.ref q_1, .int 0, .int 0, .int 0, .int 0])), (q_1, .inl (cI, 20, .inl (fun _ => 0)))]) hP hD rfl
  clear hP hD
  obtain ⟨hP, hD⟩ := h9R
  refine W.widen (k := 1) (n := 20) (Nat.le_of_ble_eq_true rfl) (Nat.le_of_ble_eq_true rfl) ?_
  exact W.vret hx hb hr (fun t ht hW => ⟨⟨q_1, rfl, trivial, zRet ht hP hD [0, 1] (by decide) rfl⟩, hS.F ht⟩) hS.2.2 dX1_init_32
theorem gl_X4_init_X40 : GoodIn wsX4_init wsX40 := (dg_t (dg_t (dg_t (dg_t (dg_t (dg_t (dg_t (dg_t gw_wsX40))))))))
theorem hi_X4_init_4 : ∀ w ∈ u_ws RX4 TX4 3, w ∈ wsX4_init := fun w h => (gl_X4_init_X40 w h).1
set_option maxHeartbeats 4000000 in
set_option maxRecDepth 100000 in
theorem c_Shelf_init (l : Launch) (D : va_G) (cI cJ cZ cP cS : ClassId) (po : zPool) (h0 : Nat)  (hpz : Nat) : Met l yX4_init wsX4_init ({ frames := 1, cells := 1, slots := 160, locals := 12 }) (va_Pc [.ref h0] (zW D (zKT cI cJ cZ cP cS) po [(h0, .inr (4, [.null, .int 0, .int 0]))] hpz)) (va_Qv (fun (q_1 : (Nat)) => True) (zB D [(h0, .inr (4, [.null, .int 0, .int 0]))] hpz (fun (q_1 : Nat) => [(h0, .inr (4, [.ref q_1, .int (-1), .int 0])), (q_1, .inl (cJ, 160, .inr (.inl (fun _ => 0))))])) (va_A [(h0, .inr (4, [.null, .int 0, .int 0]))] hpz)) 1 160 (va_A [(h0, .inr (4, [.null, .int 0, .int 0]))] hpz) := by
  refine Met.ofW (cc := cX4_init) (maxL := 1) (ret := none) (by decide) rfl ?_
  intro p e s m args below meth c s₁ B hml hv
  obtain ⟨rfl, hsz, hP, hK, hD0, hN, hZ⟩ := hv
  have hx := B.exec
  have hb := B.bytes
  have hr := B.returns
  have hts := atoms_spec (ws := wsX4_init) B.pre
  have hown : s.vm.findClass RX4 = some m.cls := findClass_of_methodNamed B.named
  have hlocks := B.notSynchronized
  have hin : meth.name = "<init>" := (name_of_methodNamed B.named B.method).1
  subst hsz
  have hD := hD0.self (sz := s.heap.size)
  have hA := zA_of hD
  have hl := lv_entry ([.ref h0]) (n := 1) (Nat.le_of_ble_eq_true rfl)
  rw [lg_entry_eq]
  generalize (lg_sl ([.ref h0]) ++ List.replicate (1 - (lg_sl ([.ref h0])).length) Slot.unset).toArray = ls at hl ⊢
  replace hl : lv_has ls 1 [(0, .ref h0)] := hl
  refine zw_begin hP hD (fun H locs hP1 hS => ?_)
  clear hP
  have hP := hP1
  clear hP1
  refine lv_aload_n hx hb dX4_init_0 rfl (lv_at hl 0 rfl) ?_
  refine W.objInit hx hb hown (hts (.methodLink RX4 3 objectInit) (List.mem_of_getElem? (i := 1) rfl)) (hts _ (List.mem_of_getElem? (i := 2) rfl)) (hts _ (List.mem_of_getElem? (i := 3) rfl)) rfl (by rw [hml]; exact hl.1) rfl dX4_init_1 (Nat.le_of_ble_eq_true rfl) (Nat.le_of_ble_eq_true rfl) ?_
  refine W.eq (g2 := F0 m 4 ls []) rfl ?_
  refine lv_aload_n hx hb dX4_init_4 rfl (lv_at hl 0 rfl) ?_
  refine lv_sipush (v := 160) hx hb dX4_init_5 (by decide) ?_
  refine va_newa hx hb (atype := .long) (hts _ (List.mem_of_getElem? (i := 4) rfl)) rfl hK hP hD hS hA (N' := 160) (a0 := (160, .inr (.inl (fun _ => 0)))) (fun _ => rfl) (by decide) (by decide) (Nat.le_of_ble_eq_true rfl) (Nat.le_of_ble_eq_true rfl) (Nat.le_of_ble_eq_true rfl) dX4_init_8 (fun q_1 cA H hK1 hP hD hS => ?_)
  obtain rfl : cJ = cA := zk_eqJ (k := 1) hK rfl hK1
  have h9R := zRe (ws' := [(h0, .inr (4, [.null, .int 0, .int 0])), (q_1, .inl (cJ, 160, .inr (.inl (fun _ => 0))))]) hP hD rfl
  clear hP hD
  obtain ⟨hP, hD⟩ := h9R
  refine W.widen (k := 1) (n := 160) (Nat.le_of_ble_eq_true rfl) (Nat.le_of_ble_eq_true rfl) ?_
  refine va_putF (D := D) (ci := 4) (v := .ref q_1) (ty := (.array .long)) (C := RX4) (T := TX4) (N := 3) hx hb hts hi_X4_init_4 tyX4 tyX4_ok nmX4 hown hK hP hD hS 0 rfl rfl 0 (by decide) (hts (.fieldLink RX4 9 "TheLiningsInIt$Shelf" "elements" "[J") (List.mem_of_getElem? (i := 5) rfl)) (fun _ h9 => h9) rfl hin rfl (tyX4_ok 0 (Nat.le_of_ble_eq_true rfl)) rfl rfl (Nat.le_of_ble_eq_true rfl) dX4_init_10 (fun H locs hP hD hS => ?_)
  have h9R := zRe (ws' := [(h0, .inr (4, [.ref q_1, .int 0, .int 0])), (q_1, .inl (cJ, 160, .inr (.inl (fun _ => 0))))]) hP hD rfl
  clear hP hD
  obtain ⟨hP, hD⟩ := h9R
  refine lv_aload_n hx hb dX4_init_13 rfl (lv_at hl 0 rfl) ?_
  refine lv_iconst (v := (-1)) hx hb dX4_init_14 (by decide) ?_
  refine va_put (D := D) (ci := 4) (v := .int (-1)) (ty := .int) (C := RX4) (T := TX4) (N := 3) hx hb hts hi_X4_init_4 tyX4 tyX4_ok nmX4 hown hK hP hD hS 0 rfl rfl 1 (by decide) (hts (.fieldLink RX4 15 "TheLiningsInIt$Shelf" "held" "I") (List.mem_of_getElem? (i := 6) rfl)) (fun _ h9 => h9) rfl (tyX4_ok 1 (Nat.le_of_ble_eq_true rfl)) rfl rfl (Nat.le_of_ble_eq_true rfl) dX4_init_15 (fun H locs hP hD hS => ?_)
  have h9R := zRe (ws' := [(h0, .inr (4, [.ref q_1, .int (-1), .int 0])), (q_1, .inl (cJ, 160, .inr (.inl (fun _ => 0))))]) hP hD rfl
  clear hP hD
  obtain ⟨hP, hD⟩ := h9R
  refine lv_aload_n hx hb dX4_init_18 rfl (lv_at hl 0 rfl) ?_
  refine lv_iconst (v := 0) hx hb dX4_init_19 (by decide) ?_
  refine va_put (D := D) (ci := 4) (v := .int 0) (ty := .int) (C := RX4) (T := TX4) (N := 3) hx hb hts hi_X4_init_4 tyX4 tyX4_ok nmX4 hown hK hP hD hS 0 rfl rfl 2 (by decide) (hts (.fieldLink RX4 19 "TheLiningsInIt$Shelf" "size" "I") (List.mem_of_getElem? (i := 7) rfl)) (fun _ h9 => h9) rfl (tyX4_ok 2 (Nat.le_of_ble_eq_true rfl)) rfl rfl (Nat.le_of_ble_eq_true rfl) dX4_init_20 (fun H locs hP hD hS => ?_)
  have h9R := zRe (ws' := [(h0, .inr (4, [.ref q_1, .int (-1), .int 0])), (q_1, .inl (cJ, 160, .inr (.inl (fun _ => 0))))]) hP hD rfl
  clear hP hD
  obtain ⟨hP, hD⟩ := h9R
  refine W.widen (k := 1) (n := 160) (Nat.le_of_ble_eq_true rfl) (Nat.le_of_ble_eq_true rfl) ?_
  exact W.vret hx hb hr (fun t ht hW => ⟨⟨q_1, rfl, trivial, zRet ht hP hD [0, 1] (by decide) rfl⟩, hS.F ht⟩) hS.2.2 dX4_init_23
theorem gl_X7_init_X70 : GoodIn wsX7_init wsX70 := (dg_t (dg_l (dg_l (dg_l (dg_l (dg_l (dg_l (dg_r gw_wsX70))))))))
theorem hi_X7_init_7 : ∀ w ∈ u_ws RX7 TX7 9, w ∈ wsX7_init := fun w h => (gl_X7_init_X70 w h).1
theorem hi_X7_init_0 : ∀ w ∈ u_ws RX0 TX0 9, w ∈ wsX7_init := fun w h => (gl_X7_init_X00 w h).1
theorem hi_X7_init_5 : ∀ w ∈ u_ws RX5 TX5 7, w ∈ wsX7_init := fun w h => (gl_X7_init_X50 w h).1
theorem hi_X7_init_3 : ∀ w ∈ u_ws RX3 TX3 8, w ∈ wsX7_init := fun w h => (gl_X7_init_X30 w h).1
theorem hi_X7_init_1 : ∀ w ∈ u_ws RX1 TX1 5, w ∈ wsX7_init := fun w h => (gl_X7_init_X10 w h).1
theorem hi_X7_init_4 : ∀ w ∈ u_ws RX4 TX4 3, w ∈ wsX7_init := fun w h => (gl_X7_init_X40 w h).1
set_option maxHeartbeats 4000000 in
set_option maxRecDepth 100000 in
theorem c_X_init (l : Launch) (D : va_G) (cI cJ cZ cP cS : ClassId) (po : zPool) (x0 : Nat)  (hpz : Nat) : Met l yX7_init wsX7_init ({ frames := 3, cells := 40, slots := 2123, locals := 52 }) (va_Pc [.ref x0] (zW D (zKT cI cJ cZ cP cS) po [(x0, .inr (7, [.null, .null, .null, .null, .null, .null, .null, .int 0, .int 0]))] hpz)) (va_Qv (fun (u : (Nat) × (Nat) × (Nat) × (Nat) × (Nat) × (Nat) × (Nat) × (Nat) × (Nat) × (Nat) × (Nat) × (Nat) × (Nat) × (Nat) × (Nat) × (Nat) × (Nat) × (Nat) × (Nat) × (Nat) × (Nat) × (Nat) × (Nat) × (Nat) × (Nat) × (Nat) × (Nat) × (Nat) × (Nat) × (Nat) × (Nat) × (Nat) × (Nat) × (Nat) × (Nat) × (Nat) × (Nat) × (Nat) × (Nat) × (Nat)) => True) (zB D [(x0, .inr (7, [.null, .null, .null, .null, .null, .null, .null, .int 0, .int 0]))] hpz (fun (u : (Nat) × (Nat) × (Nat) × (Nat) × (Nat) × (Nat) × (Nat) × (Nat) × (Nat) × (Nat) × (Nat) × (Nat) × (Nat) × (Nat) × (Nat) × (Nat) × (Nat) × (Nat) × (Nat) × (Nat) × (Nat) × (Nat) × (Nat) × (Nat) × (Nat) × (Nat) × (Nat) × (Nat) × (Nat) × (Nat) × (Nat) × (Nat) × (Nat) × (Nat) × (Nat) × (Nat) × (Nat) × (Nat) × (Nat) × (Nat)) => ((x0, .inr (7, [.ref u.1, .ref u.2.1, .ref u.2.2.2.2.2.2.2.1, .ref u.2.2.2.2.2.2.2.2.2.2.2.2.2.1, .ref u.2.2.2.2.2.2.2.2.2.2.2.2.2.2.2.2.2.2.1, .ref u.2.2.2.2.2.2.2.2.2.2.2.2.2.2.2.2.2.2.2.2.2.1, .ref u.2.2.2.2.2.2.2.2.2.2.2.2.2.2.2.2.2.2.2.2.2.2.2.1, .int 0, .int (-1)])) :: (u.1, .inl (cS, 8, .inr (.inr (.inr (.inr (va_up (va_up (va_up (va_up (va_up (va_up (va_up (va_up (fun _ => none) (0 : Int32).toNatClampNeg (some u.2.2.2.2.2.2.2.2.2.2.2.2.2.2.2.2.2.2.2.2.2.2.2.2.1)) (1 : Int32).toNatClampNeg (some u.2.2.2.2.2.2.2.2.2.2.2.2.2.2.2.2.2.2.2.2.2.2.2.2.2.2.1)) (2 : Int32).toNatClampNeg (some u.2.2.2.2.2.2.2.2.2.2.2.2.2.2.2.2.2.2.2.2.2.2.2.2.2.2.2.2.1)) (3 : Int32).toNatClampNeg (some u.2.2.2.2.2.2.2.2.2.2.2.2.2.2.2.2.2.2.2.2.2.2.2.2.2.2.2.2.2.2.1)) (4 : Int32).toNatClampNeg (some u.2.2.2.2.2.2.2.2.2.2.2.2.2.2.2.2.2.2.2.2.2.2.2.2.2.2.2.2.2.2.2.2.1)) (5 : Int32).toNatClampNeg (some u.2.2.2.2.2.2.2.2.2.2.2.2.2.2.2.2.2.2.2.2.2.2.2.2.2.2.2.2.2.2.2.2.2.2.1)) (6 : Int32).toNatClampNeg (some u.2.2.2.2.2.2.2.2.2.2.2.2.2.2.2.2.2.2.2.2.2.2.2.2.2.2.2.2.2.2.2.2.2.2.2.2.1)) (7 : Int32).toNatClampNeg (some u.2.2.2.2.2.2.2.2.2.2.2.2.2.2.2.2.2.2.2.2.2.2.2.2.2.2.2.2.2.2.2.2.2.2.2.2.2.2.1))))))) :: (u.2.1, .inr (0, [.ref u.2.2.1, .ref u.2.2.2.2.2.1, .ref u.2.2.2.2.2.2.1, .int 0, .int 0, .int 0, .int 60, .int 0, .int 1])) :: (u.2.2.1, .inr (6, [.ref u.2.2.2.1, .ref u.2.2.2.2.1, .int 20, .int 0, .int 3])) :: (u.2.2.2.1, .inl (cZ, 40, .inl (fun _ => 0))) :: (u.2.2.2.2.1, .inl (cI, 40, .inl (fun _ => 0))) :: (u.2.2.2.2.2.1, .inl (cP, 8, .inr (.inr (.inr (.inr (fun _ => none)))))) :: (u.2.2.2.2.2.2.1, .inl (cI, 3, .inl (zL3 5 10 50))) :: (u.2.2.2.2.2.2.2.1, .inr (0, [.ref u.2.2.2.2.2.2.2.2.1, .ref u.2.2.2.2.2.2.2.2.2.2.2.1, .ref u.2.2.2.2.2.2.2.2.2.2.2.2.1, .int 0, .int 0, .int 0, .int 60, .int 0, .int 1])) :: (u.2.2.2.2.2.2.2.2.1, .inr (6, [.ref u.2.2.2.2.2.2.2.2.2.1, .ref u.2.2.2.2.2.2.2.2.2.2.1, .int 20, .int 0, .int 3])) :: (u.2.2.2.2.2.2.2.2.2.1, .inl (cZ, 40, .inl (fun _ => 0))) :: (u.2.2.2.2.2.2.2.2.2.2.1, .inl (cI, 40, .inl (fun _ => 0))) :: (u.2.2.2.2.2.2.2.2.2.2.2.1, .inl (cP, 8, .inr (.inr (.inr (.inr (fun _ => none)))))) :: (u.2.2.2.2.2.2.2.2.2.2.2.2.1, .inl (cI, 3, .inl (zL3 5 10 50))) :: (u.2.2.2.2.2.2.2.2.2.2.2.2.2.1, .inr (5, [.ref u.2.2.2.2.2.2.2.2.2.2.2.2.2.2.1, .ref u.2.2.2.2.2.2.2.2.2.2.2.2.2.2.2.1, .ref u.2.2.2.2.2.2.2.2.2.2.2.2.2.2.2.2.1, .ref u.2.2.2.2.2.2.2.2.2.2.2.2.2.2.2.2.2.1, .int 0, .int 0, .int 0])) :: (u.2.2.2.2.2.2.2.2.2.2.2.2.2.2.1, .inl (cI, 125, .inl (fun _ => 0))) :: (u.2.2.2.2.2.2.2.2.2.2.2.2.2.2.2.1, .inl (cI, 125, .inl (fun _ => 0))) :: (u.2.2.2.2.2.2.2.2.2.2.2.2.2.2.2.2.1, .inl (cI, 3, .inl (fun _ => 0))) :: (u.2.2.2.2.2.2.2.2.2.2.2.2.2.2.2.2.2.1, .inl (cP, 8, .inr (.inr (.inr (.inr (fun _ => none)))))) :: (u.2.2.2.2.2.2.2.2.2.2.2.2.2.2.2.2.2.2.1, .inr (3, [.ref u.2.2.2.2.2.2.2.2.2.2.2.2.2.2.2.2.2.2.2.1, .ref u.2.2.2.2.2.2.2.2.2.2.2.2.2.2.2.2.2.2.2.2.1, .int 0, .int 0, .int 0, .int (-1), .int 0, .int 0])) :: (u.2.2.2.2.2.2.2.2.2.2.2.2.2.2.2.2.2.2.2.1, .inl (cI, 132, .inl (fun _ => 0))) :: (u.2.2.2.2.2.2.2.2.2.2.2.2.2.2.2.2.2.2.2.2.1, .inl (cI, 160, .inl (fun _ => 0))) :: (u.2.2.2.2.2.2.2.2.2.2.2.2.2.2.2.2.2.2.2.2.2.1, .inr (1, [.ref u.2.2.2.2.2.2.2.2.2.2.2.2.2.2.2.2.2.2.2.2.2.2.1, .int 0, .int 0, .int 0, .int 0])) :: (u.2.2.2.2.2.2.2.2.2.2.2.2.2.2.2.2.2.2.2.2.2.2.1, .inl (cI, 20, .inl (fun _ => 0))) :: (u.2.2.2.2.2.2.2.2.2.2.2.2.2.2.2.2.2.2.2.2.2.2.2.1, .inl (cI, 8, .inl (fun _ => 0))) :: (u.2.2.2.2.2.2.2.2.2.2.2.2.2.2.2.2.2.2.2.2.2.2.2.2.1, .inr (4, [.ref u.2.2.2.2.2.2.2.2.2.2.2.2.2.2.2.2.2.2.2.2.2.2.2.2.2.1, .int (-1), .int 0])) :: (u.2.2.2.2.2.2.2.2.2.2.2.2.2.2.2.2.2.2.2.2.2.2.2.2.2.1, .inl (cJ, 160, .inr (.inl (fun _ => 0)))) :: (u.2.2.2.2.2.2.2.2.2.2.2.2.2.2.2.2.2.2.2.2.2.2.2.2.2.2.1, .inr (4, [.ref u.2.2.2.2.2.2.2.2.2.2.2.2.2.2.2.2.2.2.2.2.2.2.2.2.2.2.2.1, .int (-1), .int 0])) :: (u.2.2.2.2.2.2.2.2.2.2.2.2.2.2.2.2.2.2.2.2.2.2.2.2.2.2.2.1, .inl (cJ, 160, .inr (.inl (fun _ => 0)))) :: (u.2.2.2.2.2.2.2.2.2.2.2.2.2.2.2.2.2.2.2.2.2.2.2.2.2.2.2.2.1, .inr (4, [.ref u.2.2.2.2.2.2.2.2.2.2.2.2.2.2.2.2.2.2.2.2.2.2.2.2.2.2.2.2.2.1, .int (-1), .int 0])) :: (u.2.2.2.2.2.2.2.2.2.2.2.2.2.2.2.2.2.2.2.2.2.2.2.2.2.2.2.2.2.1, .inl (cJ, 160, .inr (.inl (fun _ => 0)))) :: (u.2.2.2.2.2.2.2.2.2.2.2.2.2.2.2.2.2.2.2.2.2.2.2.2.2.2.2.2.2.2.1, .inr (4, [.ref u.2.2.2.2.2.2.2.2.2.2.2.2.2.2.2.2.2.2.2.2.2.2.2.2.2.2.2.2.2.2.2.1, .int (-1), .int 0])) :: (u.2.2.2.2.2.2.2.2.2.2.2.2.2.2.2.2.2.2.2.2.2.2.2.2.2.2.2.2.2.2.2.1, .inl (cJ, 160, .inr (.inl (fun _ => 0)))) :: (u.2.2.2.2.2.2.2.2.2.2.2.2.2.2.2.2.2.2.2.2.2.2.2.2.2.2.2.2.2.2.2.2.1, .inr (4, [.ref u.2.2.2.2.2.2.2.2.2.2.2.2.2.2.2.2.2.2.2.2.2.2.2.2.2.2.2.2.2.2.2.2.2.1, .int (-1), .int 0])) :: (u.2.2.2.2.2.2.2.2.2.2.2.2.2.2.2.2.2.2.2.2.2.2.2.2.2.2.2.2.2.2.2.2.2.1, .inl (cJ, 160, .inr (.inl (fun _ => 0)))) :: (u.2.2.2.2.2.2.2.2.2.2.2.2.2.2.2.2.2.2.2.2.2.2.2.2.2.2.2.2.2.2.2.2.2.2.1, .inr (4, [.ref u.2.2.2.2.2.2.2.2.2.2.2.2.2.2.2.2.2.2.2.2.2.2.2.2.2.2.2.2.2.2.2.2.2.2.2.1, .int (-1), .int 0])) :: (u.2.2.2.2.2.2.2.2.2.2.2.2.2.2.2.2.2.2.2.2.2.2.2.2.2.2.2.2.2.2.2.2.2.2.2.1, .inl (cJ, 160, .inr (.inl (fun _ => 0)))) :: (u.2.2.2.2.2.2.2.2.2.2.2.2.2.2.2.2.2.2.2.2.2.2.2.2.2.2.2.2.2.2.2.2.2.2.2.2.1, .inr (4, [.ref u.2.2.2.2.2.2.2.2.2.2.2.2.2.2.2.2.2.2.2.2.2.2.2.2.2.2.2.2.2.2.2.2.2.2.2.2.2.1, .int (-1), .int 0])) :: (u.2.2.2.2.2.2.2.2.2.2.2.2.2.2.2.2.2.2.2.2.2.2.2.2.2.2.2.2.2.2.2.2.2.2.2.2.2.1, .inl (cJ, 160, .inr (.inl (fun _ => 0)))) :: (u.2.2.2.2.2.2.2.2.2.2.2.2.2.2.2.2.2.2.2.2.2.2.2.2.2.2.2.2.2.2.2.2.2.2.2.2.2.2.1, .inr (4, [.ref u.2.2.2.2.2.2.2.2.2.2.2.2.2.2.2.2.2.2.2.2.2.2.2.2.2.2.2.2.2.2.2.2.2.2.2.2.2.2.2, .int (-1), .int 0])) :: (u.2.2.2.2.2.2.2.2.2.2.2.2.2.2.2.2.2.2.2.2.2.2.2.2.2.2.2.2.2.2.2.2.2.2.2.2.2.2.2, .inl (cJ, 160, .inr (.inl (fun _ => 0)))) :: []))) (va_A [(x0, .inr (7, [.null, .null, .null, .null, .null, .null, .null, .int 0, .int 0]))] hpz)) 40 2123 (va_A [(x0, .inr (7, [.null, .null, .null, .null, .null, .null, .null, .int 0, .int 0]))] hpz) := by
  refine Met.ofW (cc := cX7_init) (maxL := 2) (ret := none) (by decide) rfl ?_
  intro p e s m args below meth c s₁ B hml hv
  obtain ⟨rfl, hsz, hP, hK, hD0, hN, hZ⟩ := hv
  have hx := B.exec
  have hb := B.bytes
  have hr := B.returns
  have hts := atoms_spec (ws := wsX7_init) B.pre
  have hown : s.vm.findClass RX7 = some m.cls := findClass_of_methodNamed B.named
  have hlocks := B.notSynchronized
  have hin : meth.name = "<init>" := (name_of_methodNamed B.named B.method).1
  subst hsz
  have hD := hD0.self (sz := s.heap.size)
  have hA := zA_of hD
  have hl := lv_entry ([.ref x0]) (n := 2) (Nat.le_of_ble_eq_true rfl)
  rw [lg_entry_eq]
  generalize (lg_sl ([.ref x0]) ++ List.replicate (2 - (lg_sl ([.ref x0])).length) Slot.unset).toArray = ls at hl ⊢
  replace hl : lv_has ls 2 [(0, .ref x0)] := hl
  refine zw_begin hP hD (fun H locs hP1 hS => ?_)
  clear hP
  have hP := hP1
  clear hP1
  refine lv_aload_n hx hb dX7_init_0 rfl (lv_at hl 0 rfl) ?_
  refine W.objInit hx hb hown (hts (.methodLink RX7 1 objectInit) (List.mem_of_getElem? (i := 1) rfl)) (hts _ (List.mem_of_getElem? (i := 2) rfl)) (hts _ (List.mem_of_getElem? (i := 3) rfl)) rfl (by rw [hml]; exact hl.1) rfl dX7_init_1 (Nat.le_of_ble_eq_true rfl) (Nat.le_of_ble_eq_true rfl) ?_
  refine W.eq (g2 := F0 m 4 ls []) rfl ?_
  refine lv_aload_n hx hb dX7_init_4 rfl (lv_at hl 0 rfl) ?_
  refine lv_bipush (v := 8) hx hb dX7_init_5 (by decide) ?_
  refine va_newq hx hb hown (hts (.classLink RX7 9 RX4) (List.mem_of_getElem? (i := 4) rfl)) hN.2.2.2 hK hP hD hS hA (N' := 8) (by decide) (by decide) (Nat.le_of_ble_eq_true rfl) (Nat.le_of_ble_eq_true rfl) (Nat.le_of_ble_eq_true rfl) dX7_init_7 (fun q_1 cA H hK1 hP hD hS => ?_)
  obtain rfl : cS = cA := zk_eqO (k := 4) hK rfl hK1
  have h9R := zRe (ws' := [(x0, .inr (7, [.null, .null, .null, .null, .null, .null, .null, .int 0, .int 0])), (q_1, .inl (cS, 8, .inr (.inr (.inr (.inr (fun _ => none))))))]) hP hD rfl
  clear hP hD
  obtain ⟨hP, hD⟩ := h9R
  refine W.widen (k := 1) (n := 8) (Nat.le_of_ble_eq_true rfl) (Nat.le_of_ble_eq_true rfl) ?_
  refine va_putF (D := D) (ci := 7) (v := .ref q_1) (ty := (.array (.object "TheLiningsInIt$Shelf"))) (C := RX7) (T := TX7) (N := 9) hx hb hts hi_X7_init_7 tyX7 tyX7_ok nmX7 hown hK hP hD hS 0 rfl rfl 0 (by decide) (hts (.fieldLink RX7 11 "TheLiningsInIt" "shelves" "[LTheLiningsInIt$Shelf;") (List.mem_of_getElem? (i := 5) rfl)) (fun _ h9 => h9) rfl hin rfl (tyX7_ok 0 (Nat.le_of_ble_eq_true rfl)) rfl rfl (Nat.le_of_ble_eq_true rfl) dX7_init_10 (fun H locs hP hD hS => ?_)
  have h9R := zRe (ws' := [(x0, .inr (7, [.ref q_1, .null, .null, .null, .null, .null, .null, .int 0, .int 0])), (q_1, .inl (cS, 8, .inr (.inr (.inr (.inr (fun _ => none))))))]) hP hD rfl
  clear hP hD
  obtain ⟨hP, hD⟩ := h9R
  refine lv_aload_n hx hb dX7_init_13 rfl (lv_at hl 0 rfl) ?_
  refine va_new (ci := 0) (fs := [.null, .null, .null, .int 0, .int 0, .int 0, .int 0, .int 0, .int 0]) (C := RX0) (T := TX0) (N := 9) hx hb hts hi_X7_init_0 tyX0 tyX0_ok hown (hts (.classLink RX7 15 RX0) (List.mem_of_getElem? (i := 6) rfl)) (hts _ (List.mem_of_getElem? (i := 7) rfl)) (hts _ (List.mem_of_getElem? (i := 8) rfl)) hK hP hD hS hA rfl (fun j hj => by rcases (show j = 0 ∨ j = 1 ∨ j = 2 ∨ j = 3 ∨ j = 4 ∨ j = 5 ∨ j = 6 ∨ j = 7 ∨ j = 8 by omega) with rfl | rfl | rfl | rfl | rfl | rfl | rfl | rfl | rfl <;> rfl) (Nat.le_of_ble_eq_true rfl) (Nat.le_of_ble_eq_true rfl) dX7_init_14 (fun q_2 H hP hD hS => ?_)
  have h9R := zRe (ws' := [(x0, .inr (7, [.ref q_1, .null, .null, .null, .null, .null, .null, .int 0, .int 0])), (q_1, .inl (cS, 8, .inr (.inr (.inr (.inr (fun _ => none)))))), (q_2, .inr (0, [.null, .null, .null, .int 0, .int 0, .int 0, .int 0, .int 0, .int 0]))]) hP hD rfl
  clear hP hD
  obtain ⟨hP, hD⟩ := h9R
  refine W.widen (k := 2) (n := 17) (Nat.le_of_ble_eq_true rfl) (Nat.le_of_ble_eq_true rfl) ?_
  refine lv_dup hx hb dX7_init_17 rfl ?_
  skip
  refine zw_IN (As := []) (rest := [.ref q_2, .ref x0]) (wr := [(x0, .inr (7, [.ref q_1, .null, .null, .null, .null, .null, .null, .int 0, .int 0])), (q_1, .inl (cS, 8, .inr (.inr (.inr (.inr (fun _ => none))))))]) ⟨hx, hb, hml, hown, hts⟩ (c_Jacket_init l D cI cJ cZ cP cS po q_2  H.size) ⟨(va_cnB 0 hts gX7_init_X0_init_n17 rfl rfl rfl (hN.1 (RX7, 17, yX0_init) (List.mem_of_getElem? (i := 0) rfl)) (hts _ (List.mem_of_getElem? (i := 8) rfl)) dh_X0_init ⟨Nat.le_of_ble_eq_true rfl, Nat.le_of_ble_eq_true rfl⟩), rfl, (hts _ (List.mem_of_getElem? (i := 29) rfl))⟩ hK hN (hZ.kept hS) hP hD hS hA [2] [0, 1] rfl rfl (by decide) (by decide) (by decide) rfl hl.1 rfl (Nat.le_of_ble_eq_true rfl) dX7_init_18 ⟨Nat.le_of_ble_eq_true rfl, Nat.le_of_ble_eq_true rfl⟩ (fun u_4 H locs hr_3 hP hD hS => ?_)
  obtain ⟨q_5, q_6, q_7, q_8, q_9⟩ := u_4
  try dsimp only at hr_3
  have h9R := zRe (ws' := [(x0, .inr (7, [.ref q_1, .null, .null, .null, .null, .null, .null, .int 0, .int 0])), (q_1, .inl (cS, 8, .inr (.inr (.inr (.inr (fun _ => none)))))), (q_2, .inr (0, [.ref q_5, .ref q_8, .ref q_9, .int 0, .int 0, .int 0, .int 60, .int 0, .int 1])), (q_5, .inr (6, [.ref q_6, .ref q_7, .int 20, .int 0, .int 3])), (q_6, .inl (cZ, 40, .inl (fun _ => 0))), (q_7, .inl (cI, 40, .inl (fun _ => 0))), (q_8, .inl (cP, 8, .inr (.inr (.inr (.inr (fun _ => none)))))), (q_9, .inl (cI, 3, .inl (zL3 5 10 50)))]) hP hD rfl
  clear hP hD
  obtain ⟨hP, hD⟩ := h9R
  refine W.widen (k := 7) (n := 113) (Nat.le_of_ble_eq_true rfl) (Nat.le_of_ble_eq_true rfl) ?_
  refine va_putF (D := D) (ci := 7) (v := .ref q_2) (ty := (.object "TheLiningsInIt$Jacket")) (C := RX7) (T := TX7) (N := 9) hx hb hts hi_X7_init_7 tyX7 tyX7_ok nmX7 hown hK hP hD hS 0 rfl rfl 1 (by decide) (hts (.fieldLink RX7 18 "TheLiningsInIt" "now" "LTheLiningsInIt$Jacket;") (List.mem_of_getElem? (i := 9) rfl)) (fun _ h9 => h9) rfl hin rfl (tyX7_ok 1 (Nat.le_of_ble_eq_true rfl)) rfl rfl (Nat.le_of_ble_eq_true rfl) dX7_init_21 (fun H locs hP hD hS => ?_)
  have h9R := zRe (ws' := [(x0, .inr (7, [.ref q_1, .ref q_2, .null, .null, .null, .null, .null, .int 0, .int 0])), (q_1, .inl (cS, 8, .inr (.inr (.inr (.inr (fun _ => none)))))), (q_2, .inr (0, [.ref q_5, .ref q_8, .ref q_9, .int 0, .int 0, .int 0, .int 60, .int 0, .int 1])), (q_5, .inr (6, [.ref q_6, .ref q_7, .int 20, .int 0, .int 3])), (q_6, .inl (cZ, 40, .inl (fun _ => 0))), (q_7, .inl (cI, 40, .inl (fun _ => 0))), (q_8, .inl (cP, 8, .inr (.inr (.inr (.inr (fun _ => none)))))), (q_9, .inl (cI, 3, .inl (zL3 5 10 50)))]) hP hD rfl
  clear hP hD
  obtain ⟨hP, hD⟩ := h9R
  refine lv_aload_n hx hb dX7_init_24 rfl (lv_at hl 0 rfl) ?_
  refine va_new (ci := 0) (fs := [.null, .null, .null, .int 0, .int 0, .int 0, .int 0, .int 0, .int 0]) (C := RX0) (T := TX0) (N := 9) hx hb hts hi_X7_init_0 tyX0 tyX0_ok hown (hts (.classLink RX7 15 RX0) (List.mem_of_getElem? (i := 6) rfl)) (hts _ (List.mem_of_getElem? (i := 7) rfl)) (hts _ (List.mem_of_getElem? (i := 8) rfl)) hK hP hD hS hA rfl (fun j hj => by rcases (show j = 0 ∨ j = 1 ∨ j = 2 ∨ j = 3 ∨ j = 4 ∨ j = 5 ∨ j = 6 ∨ j = 7 ∨ j = 8 by omega) with rfl | rfl | rfl | rfl | rfl | rfl | rfl | rfl | rfl <;> rfl) (Nat.le_of_ble_eq_true rfl) (Nat.le_of_ble_eq_true rfl) dX7_init_25 (fun q_10 H hP hD hS => ?_)
  have h9R := zRe (ws' := [(x0, .inr (7, [.ref q_1, .ref q_2, .null, .null, .null, .null, .null, .int 0, .int 0])), (q_1, .inl (cS, 8, .inr (.inr (.inr (.inr (fun _ => none)))))), (q_2, .inr (0, [.ref q_5, .ref q_8, .ref q_9, .int 0, .int 0, .int 0, .int 60, .int 0, .int 1])), (q_5, .inr (6, [.ref q_6, .ref q_7, .int 20, .int 0, .int 3])), (q_6, .inl (cZ, 40, .inl (fun _ => 0))), (q_7, .inl (cI, 40, .inl (fun _ => 0))), (q_8, .inl (cP, 8, .inr (.inr (.inr (.inr (fun _ => none)))))), (q_9, .inl (cI, 3, .inl (zL3 5 10 50))), (q_10, .inr (0, [.null, .null, .null, .int 0, .int 0, .int 0, .int 0, .int 0, .int 0]))]) hP hD rfl
  clear hP hD
  obtain ⟨hP, hD⟩ := h9R
  refine W.widen (k := 8) (n := 122) (Nat.le_of_ble_eq_true rfl) (Nat.le_of_ble_eq_true rfl) ?_
  refine lv_dup hx hb dX7_init_28 rfl ?_
  skip
  refine zw_IN (As := []) (rest := [.ref q_10, .ref x0]) (wr := [(x0, .inr (7, [.ref q_1, .ref q_2, .null, .null, .null, .null, .null, .int 0, .int 0])), (q_1, .inl (cS, 8, .inr (.inr (.inr (.inr (fun _ => none)))))), (q_2, .inr (0, [.ref q_5, .ref q_8, .ref q_9, .int 0, .int 0, .int 0, .int 60, .int 0, .int 1])), (q_5, .inr (6, [.ref q_6, .ref q_7, .int 20, .int 0, .int 3])), (q_6, .inl (cZ, 40, .inl (fun _ => 0))), (q_7, .inl (cI, 40, .inl (fun _ => 0))), (q_8, .inl (cP, 8, .inr (.inr (.inr (.inr (fun _ => none)))))), (q_9, .inl (cI, 3, .inl (zL3 5 10 50)))]) ⟨hx, hb, hml, hown, hts⟩ (c_Jacket_init l D cI cJ cZ cP cS po q_10  H.size) ⟨(va_cnB 0 hts gX7_init_X0_init_n17 rfl rfl rfl (hN.1 (RX7, 17, yX0_init) (List.mem_of_getElem? (i := 0) rfl)) (hts _ (List.mem_of_getElem? (i := 8) rfl)) dh_X0_init ⟨Nat.le_of_ble_eq_true rfl, Nat.le_of_ble_eq_true rfl⟩), rfl, (hts _ (List.mem_of_getElem? (i := 29) rfl))⟩ hK hN (hZ.kept hS) hP hD hS hA [8] [0, 1, 2, 3, 4, 5, 6, 7] rfl rfl (by decide) (by decide) (by decide) rfl hl.1 rfl (Nat.le_of_ble_eq_true rfl) dX7_init_29 ⟨Nat.le_of_ble_eq_true rfl, Nat.le_of_ble_eq_true rfl⟩ (fun u_12 H locs hr_11 hP hD hS => ?_)
  obtain ⟨q_13, q_14, q_15, q_16, q_17⟩ := u_12
  try dsimp only at hr_11
  have h9R := zRe (ws' := [(x0, .inr (7, [.ref q_1, .ref q_2, .null, .null, .null, .null, .null, .int 0, .int 0])), (q_1, .inl (cS, 8, .inr (.inr (.inr (.inr (fun _ => none)))))), (q_2, .inr (0, [.ref q_5, .ref q_8, .ref q_9, .int 0, .int 0, .int 0, .int 60, .int 0, .int 1])), (q_5, .inr (6, [.ref q_6, .ref q_7, .int 20, .int 0, .int 3])), (q_6, .inl (cZ, 40, .inl (fun _ => 0))), (q_7, .inl (cI, 40, .inl (fun _ => 0))), (q_8, .inl (cP, 8, .inr (.inr (.inr (.inr (fun _ => none)))))), (q_9, .inl (cI, 3, .inl (zL3 5 10 50))), (q_10, .inr (0, [.ref q_13, .ref q_16, .ref q_17, .int 0, .int 0, .int 0, .int 60, .int 0, .int 1])), (q_13, .inr (6, [.ref q_14, .ref q_15, .int 20, .int 0, .int 3])), (q_14, .inl (cZ, 40, .inl (fun _ => 0))), (q_15, .inl (cI, 40, .inl (fun _ => 0))), (q_16, .inl (cP, 8, .inr (.inr (.inr (.inr (fun _ => none)))))), (q_17, .inl (cI, 3, .inl (zL3 5 10 50)))]) hP hD rfl
  clear hP hD
  obtain ⟨hP, hD⟩ := h9R
  refine W.widen (k := 13) (n := 218) (Nat.le_of_ble_eq_true rfl) (Nat.le_of_ble_eq_true rfl) ?_
  refine va_putF (D := D) (ci := 7) (v := .ref q_10) (ty := (.object "TheLiningsInIt$Jacket")) (C := RX7) (T := TX7) (N := 9) hx hb hts hi_X7_init_7 tyX7 tyX7_ok nmX7 hown hK hP hD hS 0 rfl rfl 2 (by decide) (hts (.fieldLink RX7 22 "TheLiningsInIt" "kept" "LTheLiningsInIt$Jacket;") (List.mem_of_getElem? (i := 10) rfl)) (fun _ h9 => h9) rfl hin rfl (tyX7_ok 2 (Nat.le_of_ble_eq_true rfl)) rfl rfl (Nat.le_of_ble_eq_true rfl) dX7_init_32 (fun H locs hP hD hS => ?_)
  have h9R := zRe (ws' := [(x0, .inr (7, [.ref q_1, .ref q_2, .ref q_10, .null, .null, .null, .null, .int 0, .int 0])), (q_1, .inl (cS, 8, .inr (.inr (.inr (.inr (fun _ => none)))))), (q_2, .inr (0, [.ref q_5, .ref q_8, .ref q_9, .int 0, .int 0, .int 0, .int 60, .int 0, .int 1])), (q_5, .inr (6, [.ref q_6, .ref q_7, .int 20, .int 0, .int 3])), (q_6, .inl (cZ, 40, .inl (fun _ => 0))), (q_7, .inl (cI, 40, .inl (fun _ => 0))), (q_8, .inl (cP, 8, .inr (.inr (.inr (.inr (fun _ => none)))))), (q_9, .inl (cI, 3, .inl (zL3 5 10 50))), (q_10, .inr (0, [.ref q_13, .ref q_16, .ref q_17, .int 0, .int 0, .int 0, .int 60, .int 0, .int 1])), (q_13, .inr (6, [.ref q_14, .ref q_15, .int 20, .int 0, .int 3])), (q_14, .inl (cZ, 40, .inl (fun _ => 0))), (q_15, .inl (cI, 40, .inl (fun _ => 0))), (q_16, .inl (cP, 8, .inr (.inr (.inr (.inr (fun _ => none)))))), (q_17, .inl (cI, 3, .inl (zL3 5 10 50)))]) hP hD rfl
  clear hP hD
  obtain ⟨hP, hD⟩ := h9R
  refine lv_aload_n hx hb dX7_init_35 rfl (lv_at hl 0 rfl) ?_
  refine va_new (ci := 5) (fs := [.null, .null, .null, .null, .int 0, .int 0, .int 0]) (C := RX5) (T := TX5) (N := 7) hx hb hts hi_X7_init_5 tyX5 tyX5_ok hown (hts (.classLink RX7 25 RX5) (List.mem_of_getElem? (i := 11) rfl)) (hts _ (List.mem_of_getElem? (i := 12) rfl)) (hts _ (List.mem_of_getElem? (i := 13) rfl)) hK hP hD hS hA rfl (fun j hj => by rcases (show j = 0 ∨ j = 1 ∨ j = 2 ∨ j = 3 ∨ j = 4 ∨ j = 5 ∨ j = 6 by omega) with rfl | rfl | rfl | rfl | rfl | rfl | rfl <;> rfl) (Nat.le_of_ble_eq_true rfl) (Nat.le_of_ble_eq_true rfl) dX7_init_36 (fun q_18 H hP hD hS => ?_)
  have h9R := zRe (ws' := [(x0, .inr (7, [.ref q_1, .ref q_2, .ref q_10, .null, .null, .null, .null, .int 0, .int 0])), (q_1, .inl (cS, 8, .inr (.inr (.inr (.inr (fun _ => none)))))), (q_2, .inr (0, [.ref q_5, .ref q_8, .ref q_9, .int 0, .int 0, .int 0, .int 60, .int 0, .int 1])), (q_5, .inr (6, [.ref q_6, .ref q_7, .int 20, .int 0, .int 3])), (q_6, .inl (cZ, 40, .inl (fun _ => 0))), (q_7, .inl (cI, 40, .inl (fun _ => 0))), (q_8, .inl (cP, 8, .inr (.inr (.inr (.inr (fun _ => none)))))), (q_9, .inl (cI, 3, .inl (zL3 5 10 50))), (q_10, .inr (0, [.ref q_13, .ref q_16, .ref q_17, .int 0, .int 0, .int 0, .int 60, .int 0, .int 1])), (q_13, .inr (6, [.ref q_14, .ref q_15, .int 20, .int 0, .int 3])), (q_14, .inl (cZ, 40, .inl (fun _ => 0))), (q_15, .inl (cI, 40, .inl (fun _ => 0))), (q_16, .inl (cP, 8, .inr (.inr (.inr (.inr (fun _ => none)))))), (q_17, .inl (cI, 3, .inl (zL3 5 10 50))), (q_18, .inr (5, [.null, .null, .null, .null, .int 0, .int 0, .int 0]))]) hP hD rfl
  clear hP hD
  obtain ⟨hP, hD⟩ := h9R
  refine W.widen (k := 14) (n := 225) (Nat.le_of_ble_eq_true rfl) (Nat.le_of_ble_eq_true rfl) ?_
  refine lv_dup hx hb dX7_init_39 rfl ?_
  skip
  refine zw_IN (As := []) (rest := [.ref q_18, .ref x0]) (wr := [(x0, .inr (7, [.ref q_1, .ref q_2, .ref q_10, .null, .null, .null, .null, .int 0, .int 0])), (q_1, .inl (cS, 8, .inr (.inr (.inr (.inr (fun _ => none)))))), (q_2, .inr (0, [.ref q_5, .ref q_8, .ref q_9, .int 0, .int 0, .int 0, .int 60, .int 0, .int 1])), (q_5, .inr (6, [.ref q_6, .ref q_7, .int 20, .int 0, .int 3])), (q_6, .inl (cZ, 40, .inl (fun _ => 0))), (q_7, .inl (cI, 40, .inl (fun _ => 0))), (q_8, .inl (cP, 8, .inr (.inr (.inr (.inr (fun _ => none)))))), (q_9, .inl (cI, 3, .inl (zL3 5 10 50))), (q_10, .inr (0, [.ref q_13, .ref q_16, .ref q_17, .int 0, .int 0, .int 0, .int 60, .int 0, .int 1])), (q_13, .inr (6, [.ref q_14, .ref q_15, .int 20, .int 0, .int 3])), (q_14, .inl (cZ, 40, .inl (fun _ => 0))), (q_15, .inl (cI, 40, .inl (fun _ => 0))), (q_16, .inl (cP, 8, .inr (.inr (.inr (.inr (fun _ => none)))))), (q_17, .inl (cI, 3, .inl (zL3 5 10 50)))]) ⟨hx, hb, hml, hown, hts⟩ (c_Ways_init l D cI cJ cZ cP cS po q_18  H.size) ⟨(va_cnB 0 hts gX7_init_X5_init_n27 rfl rfl rfl (hN.1 (RX7, 27, yX5_init) (List.mem_of_getElem? (i := 2) rfl)) (hts _ (List.mem_of_getElem? (i := 13) rfl)) dh_X5_init ⟨Nat.le_of_ble_eq_true rfl, Nat.le_of_ble_eq_true rfl⟩), rfl, (hts _ (List.mem_of_getElem? (i := 54) rfl))⟩ hK hN (hZ.kept hS) hP hD hS hA [14] [0, 1, 2, 3, 4, 5, 6, 7, 8, 9, 10, 11, 12, 13] rfl rfl (by decide) (by decide) (by decide) rfl hl.1 rfl (Nat.le_of_ble_eq_true rfl) dX7_init_40 ⟨Nat.le_of_ble_eq_true rfl, Nat.le_of_ble_eq_true rfl⟩ (fun u_20 H locs hr_19 hP hD hS => ?_)
  obtain ⟨q_21, q_22, q_23, q_24⟩ := u_20
  try dsimp only at hr_19
  have h9R := zRe (ws' := [(x0, .inr (7, [.ref q_1, .ref q_2, .ref q_10, .null, .null, .null, .null, .int 0, .int 0])), (q_1, .inl (cS, 8, .inr (.inr (.inr (.inr (fun _ => none)))))), (q_2, .inr (0, [.ref q_5, .ref q_8, .ref q_9, .int 0, .int 0, .int 0, .int 60, .int 0, .int 1])), (q_5, .inr (6, [.ref q_6, .ref q_7, .int 20, .int 0, .int 3])), (q_6, .inl (cZ, 40, .inl (fun _ => 0))), (q_7, .inl (cI, 40, .inl (fun _ => 0))), (q_8, .inl (cP, 8, .inr (.inr (.inr (.inr (fun _ => none)))))), (q_9, .inl (cI, 3, .inl (zL3 5 10 50))), (q_10, .inr (0, [.ref q_13, .ref q_16, .ref q_17, .int 0, .int 0, .int 0, .int 60, .int 0, .int 1])), (q_13, .inr (6, [.ref q_14, .ref q_15, .int 20, .int 0, .int 3])), (q_14, .inl (cZ, 40, .inl (fun _ => 0))), (q_15, .inl (cI, 40, .inl (fun _ => 0))), (q_16, .inl (cP, 8, .inr (.inr (.inr (.inr (fun _ => none)))))), (q_17, .inl (cI, 3, .inl (zL3 5 10 50))), (q_18, .inr (5, [.ref q_21, .ref q_22, .ref q_23, .ref q_24, .int 0, .int 0, .int 0])), (q_21, .inl (cI, 125, .inl (fun _ => 0))), (q_22, .inl (cI, 125, .inl (fun _ => 0))), (q_23, .inl (cI, 3, .inl (fun _ => 0))), (q_24, .inl (cP, 8, .inr (.inr (.inr (.inr (fun _ => none))))))]) hP hD rfl
  clear hP hD
  obtain ⟨hP, hD⟩ := h9R
  refine W.widen (k := 18) (n := 486) (Nat.le_of_ble_eq_true rfl) (Nat.le_of_ble_eq_true rfl) ?_
  refine va_putF (D := D) (ci := 7) (v := .ref q_18) (ty := (.object "TheLiningsInIt$Ways")) (C := RX7) (T := TX7) (N := 9) hx hb hts hi_X7_init_7 tyX7 tyX7_ok nmX7 hown hK hP hD hS 0 rfl rfl 3 (by decide) (hts (.fieldLink RX7 28 "TheLiningsInIt" "ways" "LTheLiningsInIt$Ways;") (List.mem_of_getElem? (i := 14) rfl)) (fun _ h9 => h9) rfl hin rfl (tyX7_ok 3 (Nat.le_of_ble_eq_true rfl)) rfl rfl (Nat.le_of_ble_eq_true rfl) dX7_init_43 (fun H locs hP hD hS => ?_)
  have h9R := zRe (ws' := [(x0, .inr (7, [.ref q_1, .ref q_2, .ref q_10, .ref q_18, .null, .null, .null, .int 0, .int 0])), (q_1, .inl (cS, 8, .inr (.inr (.inr (.inr (fun _ => none)))))), (q_2, .inr (0, [.ref q_5, .ref q_8, .ref q_9, .int 0, .int 0, .int 0, .int 60, .int 0, .int 1])), (q_5, .inr (6, [.ref q_6, .ref q_7, .int 20, .int 0, .int 3])), (q_6, .inl (cZ, 40, .inl (fun _ => 0))), (q_7, .inl (cI, 40, .inl (fun _ => 0))), (q_8, .inl (cP, 8, .inr (.inr (.inr (.inr (fun _ => none)))))), (q_9, .inl (cI, 3, .inl (zL3 5 10 50))), (q_10, .inr (0, [.ref q_13, .ref q_16, .ref q_17, .int 0, .int 0, .int 0, .int 60, .int 0, .int 1])), (q_13, .inr (6, [.ref q_14, .ref q_15, .int 20, .int 0, .int 3])), (q_14, .inl (cZ, 40, .inl (fun _ => 0))), (q_15, .inl (cI, 40, .inl (fun _ => 0))), (q_16, .inl (cP, 8, .inr (.inr (.inr (.inr (fun _ => none)))))), (q_17, .inl (cI, 3, .inl (zL3 5 10 50))), (q_18, .inr (5, [.ref q_21, .ref q_22, .ref q_23, .ref q_24, .int 0, .int 0, .int 0])), (q_21, .inl (cI, 125, .inl (fun _ => 0))), (q_22, .inl (cI, 125, .inl (fun _ => 0))), (q_23, .inl (cI, 3, .inl (fun _ => 0))), (q_24, .inl (cP, 8, .inr (.inr (.inr (.inr (fun _ => none))))))]) hP hD rfl
  clear hP hD
  obtain ⟨hP, hD⟩ := h9R
  refine lv_aload_n hx hb dX7_init_46 rfl (lv_at hl 0 rfl) ?_
  refine va_new (ci := 3) (fs := [.null, .null, .int 0, .int 0, .int 0, .int 0, .int 0, .int 0]) (C := RX3) (T := TX3) (N := 8) hx hb hts hi_X7_init_3 tyX3 tyX3_ok hown (hts (.classLink RX7 32 RX3) (List.mem_of_getElem? (i := 15) rfl)) (hts _ (List.mem_of_getElem? (i := 16) rfl)) (hts _ (List.mem_of_getElem? (i := 17) rfl)) hK hP hD hS hA rfl (fun j hj => by rcases (show j = 0 ∨ j = 1 ∨ j = 2 ∨ j = 3 ∨ j = 4 ∨ j = 5 ∨ j = 6 ∨ j = 7 by omega) with rfl | rfl | rfl | rfl | rfl | rfl | rfl | rfl <;> rfl) (Nat.le_of_ble_eq_true rfl) (Nat.le_of_ble_eq_true rfl) dX7_init_47 (fun q_25 H hP hD hS => ?_)
  have h9R := zRe (ws' := [(x0, .inr (7, [.ref q_1, .ref q_2, .ref q_10, .ref q_18, .null, .null, .null, .int 0, .int 0])), (q_1, .inl (cS, 8, .inr (.inr (.inr (.inr (fun _ => none)))))), (q_2, .inr (0, [.ref q_5, .ref q_8, .ref q_9, .int 0, .int 0, .int 0, .int 60, .int 0, .int 1])), (q_5, .inr (6, [.ref q_6, .ref q_7, .int 20, .int 0, .int 3])), (q_6, .inl (cZ, 40, .inl (fun _ => 0))), (q_7, .inl (cI, 40, .inl (fun _ => 0))), (q_8, .inl (cP, 8, .inr (.inr (.inr (.inr (fun _ => none)))))), (q_9, .inl (cI, 3, .inl (zL3 5 10 50))), (q_10, .inr (0, [.ref q_13, .ref q_16, .ref q_17, .int 0, .int 0, .int 0, .int 60, .int 0, .int 1])), (q_13, .inr (6, [.ref q_14, .ref q_15, .int 20, .int 0, .int 3])), (q_14, .inl (cZ, 40, .inl (fun _ => 0))), (q_15, .inl (cI, 40, .inl (fun _ => 0))), (q_16, .inl (cP, 8, .inr (.inr (.inr (.inr (fun _ => none)))))), (q_17, .inl (cI, 3, .inl (zL3 5 10 50))), (q_18, .inr (5, [.ref q_21, .ref q_22, .ref q_23, .ref q_24, .int 0, .int 0, .int 0])), (q_21, .inl (cI, 125, .inl (fun _ => 0))), (q_22, .inl (cI, 125, .inl (fun _ => 0))), (q_23, .inl (cI, 3, .inl (fun _ => 0))), (q_24, .inl (cP, 8, .inr (.inr (.inr (.inr (fun _ => none)))))), (q_25, .inr (3, [.null, .null, .int 0, .int 0, .int 0, .int 0, .int 0, .int 0]))]) hP hD rfl
  clear hP hD
  obtain ⟨hP, hD⟩ := h9R
  refine W.widen (k := 19) (n := 494) (Nat.le_of_ble_eq_true rfl) (Nat.le_of_ble_eq_true rfl) ?_
  refine lv_dup hx hb dX7_init_50 rfl ?_
  skip
  refine zw_IN (As := []) (rest := [.ref q_25, .ref x0]) (wr := [(x0, .inr (7, [.ref q_1, .ref q_2, .ref q_10, .ref q_18, .null, .null, .null, .int 0, .int 0])), (q_1, .inl (cS, 8, .inr (.inr (.inr (.inr (fun _ => none)))))), (q_2, .inr (0, [.ref q_5, .ref q_8, .ref q_9, .int 0, .int 0, .int 0, .int 60, .int 0, .int 1])), (q_5, .inr (6, [.ref q_6, .ref q_7, .int 20, .int 0, .int 3])), (q_6, .inl (cZ, 40, .inl (fun _ => 0))), (q_7, .inl (cI, 40, .inl (fun _ => 0))), (q_8, .inl (cP, 8, .inr (.inr (.inr (.inr (fun _ => none)))))), (q_9, .inl (cI, 3, .inl (zL3 5 10 50))), (q_10, .inr (0, [.ref q_13, .ref q_16, .ref q_17, .int 0, .int 0, .int 0, .int 60, .int 0, .int 1])), (q_13, .inr (6, [.ref q_14, .ref q_15, .int 20, .int 0, .int 3])), (q_14, .inl (cZ, 40, .inl (fun _ => 0))), (q_15, .inl (cI, 40, .inl (fun _ => 0))), (q_16, .inl (cP, 8, .inr (.inr (.inr (.inr (fun _ => none)))))), (q_17, .inl (cI, 3, .inl (zL3 5 10 50))), (q_18, .inr (5, [.ref q_21, .ref q_22, .ref q_23, .ref q_24, .int 0, .int 0, .int 0])), (q_21, .inl (cI, 125, .inl (fun _ => 0))), (q_22, .inl (cI, 125, .inl (fun _ => 0))), (q_23, .inl (cI, 3, .inl (fun _ => 0))), (q_24, .inl (cP, 8, .inr (.inr (.inr (.inr (fun _ => none))))))]) ⟨hx, hb, hml, hown, hts⟩ (c_Reader_init l D cI cJ cZ cP cS po q_25  H.size) ⟨(va_cnB 0 hts gX7_init_X3_init_n34 rfl rfl rfl (hN.1 (RX7, 34, yX3_init) (List.mem_of_getElem? (i := 3) rfl)) (hts _ (List.mem_of_getElem? (i := 17) rfl)) dh_X3_init ⟨Nat.le_of_ble_eq_true rfl, Nat.le_of_ble_eq_true rfl⟩), rfl, (hts _ (List.mem_of_getElem? (i := 65) rfl))⟩ hK hN (hZ.kept hS) hP hD hS hA [19] [0, 1, 2, 3, 4, 5, 6, 7, 8, 9, 10, 11, 12, 13, 14, 15, 16, 17, 18] rfl rfl (by decide) (by decide) (by decide) rfl hl.1 rfl (Nat.le_of_ble_eq_true rfl) dX7_init_51 ⟨Nat.le_of_ble_eq_true rfl, Nat.le_of_ble_eq_true rfl⟩ (fun u_27 H locs hr_26 hP hD hS => ?_)
  obtain ⟨q_28, q_29⟩ := u_27
  try dsimp only at hr_26
  have h9R := zRe (ws' := ((x0, .inr (7, [.ref q_1, .ref q_2, .ref q_10, .ref q_18, .null, .null, .null, .int 0, .int 0])) :: (q_1, .inl (cS, 8, .inr (.inr (.inr (.inr (fun _ => none)))))) :: (q_2, .inr (0, [.ref q_5, .ref q_8, .ref q_9, .int 0, .int 0, .int 0, .int 60, .int 0, .int 1])) :: (q_5, .inr (6, [.ref q_6, .ref q_7, .int 20, .int 0, .int 3])) :: (q_6, .inl (cZ, 40, .inl (fun _ => 0))) :: (q_7, .inl (cI, 40, .inl (fun _ => 0))) :: (q_8, .inl (cP, 8, .inr (.inr (.inr (.inr (fun _ => none)))))) :: (q_9, .inl (cI, 3, .inl (zL3 5 10 50))) :: (q_10, .inr (0, [.ref q_13, .ref q_16, .ref q_17, .int 0, .int 0, .int 0, .int 60, .int 0, .int 1])) :: (q_13, .inr (6, [.ref q_14, .ref q_15, .int 20, .int 0, .int 3])) :: (q_14, .inl (cZ, 40, .inl (fun _ => 0))) :: (q_15, .inl (cI, 40, .inl (fun _ => 0))) :: (q_16, .inl (cP, 8, .inr (.inr (.inr (.inr (fun _ => none)))))) :: (q_17, .inl (cI, 3, .inl (zL3 5 10 50))) :: (q_18, .inr (5, [.ref q_21, .ref q_22, .ref q_23, .ref q_24, .int 0, .int 0, .int 0])) :: (q_21, .inl (cI, 125, .inl (fun _ => 0))) :: (q_22, .inl (cI, 125, .inl (fun _ => 0))) :: (q_23, .inl (cI, 3, .inl (fun _ => 0))) :: (q_24, .inl (cP, 8, .inr (.inr (.inr (.inr (fun _ => none)))))) :: (q_25, .inr (3, [.ref q_28, .ref q_29, .int 0, .int 0, .int 0, .int (-1), .int 0, .int 0])) :: (q_28, .inl (cI, 132, .inl (fun _ => 0))) :: (q_29, .inl (cI, 160, .inl (fun _ => 0))) :: [])) hP hD rfl
  clear hP hD
  obtain ⟨hP, hD⟩ := h9R
  refine W.widen (k := 21) (n := 786) (Nat.le_of_ble_eq_true rfl) (Nat.le_of_ble_eq_true rfl) ?_
  refine va_putF (D := D) (ci := 7) (v := .ref q_25) (ty := (.object "TheLiningsInIt$Reader")) (C := RX7) (T := TX7) (N := 9) hx hb hts hi_X7_init_7 tyX7 tyX7_ok nmX7 hown hK hP hD hS 0 rfl rfl 4 (by decide) (hts (.fieldLink RX7 35 "TheLiningsInIt" "reader" "LTheLiningsInIt$Reader;") (List.mem_of_getElem? (i := 18) rfl)) (fun _ h9 => h9) rfl hin rfl (tyX7_ok 4 (Nat.le_of_ble_eq_true rfl)) rfl rfl (Nat.le_of_ble_eq_true rfl) dX7_init_54 (fun H locs hP hD hS => ?_)
  have h9R := zRe (ws' := ((x0, .inr (7, [.ref q_1, .ref q_2, .ref q_10, .ref q_18, .ref q_25, .null, .null, .int 0, .int 0])) :: (q_1, .inl (cS, 8, .inr (.inr (.inr (.inr (fun _ => none)))))) :: (q_2, .inr (0, [.ref q_5, .ref q_8, .ref q_9, .int 0, .int 0, .int 0, .int 60, .int 0, .int 1])) :: (q_5, .inr (6, [.ref q_6, .ref q_7, .int 20, .int 0, .int 3])) :: (q_6, .inl (cZ, 40, .inl (fun _ => 0))) :: (q_7, .inl (cI, 40, .inl (fun _ => 0))) :: (q_8, .inl (cP, 8, .inr (.inr (.inr (.inr (fun _ => none)))))) :: (q_9, .inl (cI, 3, .inl (zL3 5 10 50))) :: (q_10, .inr (0, [.ref q_13, .ref q_16, .ref q_17, .int 0, .int 0, .int 0, .int 60, .int 0, .int 1])) :: (q_13, .inr (6, [.ref q_14, .ref q_15, .int 20, .int 0, .int 3])) :: (q_14, .inl (cZ, 40, .inl (fun _ => 0))) :: (q_15, .inl (cI, 40, .inl (fun _ => 0))) :: (q_16, .inl (cP, 8, .inr (.inr (.inr (.inr (fun _ => none)))))) :: (q_17, .inl (cI, 3, .inl (zL3 5 10 50))) :: (q_18, .inr (5, [.ref q_21, .ref q_22, .ref q_23, .ref q_24, .int 0, .int 0, .int 0])) :: (q_21, .inl (cI, 125, .inl (fun _ => 0))) :: (q_22, .inl (cI, 125, .inl (fun _ => 0))) :: (q_23, .inl (cI, 3, .inl (fun _ => 0))) :: (q_24, .inl (cP, 8, .inr (.inr (.inr (.inr (fun _ => none)))))) :: (q_25, .inr (3, [.ref q_28, .ref q_29, .int 0, .int 0, .int 0, .int (-1), .int 0, .int 0])) :: (q_28, .inl (cI, 132, .inl (fun _ => 0))) :: (q_29, .inl (cI, 160, .inl (fun _ => 0))) :: [])) hP hD rfl
  clear hP hD
  obtain ⟨hP, hD⟩ := h9R
  refine lv_aload_n hx hb dX7_init_57 rfl (lv_at hl 0 rfl) ?_
  refine va_new (ci := 1) (fs := [.null, .int 0, .int 0, .int 0, .int 0]) (C := RX1) (T := TX1) (N := 5) hx hb hts hi_X7_init_1 tyX1 tyX1_ok hown (hts (.classLink RX7 39 RX1) (List.mem_of_getElem? (i := 19) rfl)) (hts _ (List.mem_of_getElem? (i := 20) rfl)) (hts _ (List.mem_of_getElem? (i := 21) rfl)) hK hP hD hS hA rfl (fun j hj => by rcases (show j = 0 ∨ j = 1 ∨ j = 2 ∨ j = 3 ∨ j = 4 by omega) with rfl | rfl | rfl | rfl | rfl <;> rfl) (Nat.le_of_ble_eq_true rfl) (Nat.le_of_ble_eq_true rfl) dX7_init_58 (fun q_30 H hP hD hS => ?_)
  have h9R := zRe (ws' := ((x0, .inr (7, [.ref q_1, .ref q_2, .ref q_10, .ref q_18, .ref q_25, .null, .null, .int 0, .int 0])) :: (q_1, .inl (cS, 8, .inr (.inr (.inr (.inr (fun _ => none)))))) :: (q_2, .inr (0, [.ref q_5, .ref q_8, .ref q_9, .int 0, .int 0, .int 0, .int 60, .int 0, .int 1])) :: (q_5, .inr (6, [.ref q_6, .ref q_7, .int 20, .int 0, .int 3])) :: (q_6, .inl (cZ, 40, .inl (fun _ => 0))) :: (q_7, .inl (cI, 40, .inl (fun _ => 0))) :: (q_8, .inl (cP, 8, .inr (.inr (.inr (.inr (fun _ => none)))))) :: (q_9, .inl (cI, 3, .inl (zL3 5 10 50))) :: (q_10, .inr (0, [.ref q_13, .ref q_16, .ref q_17, .int 0, .int 0, .int 0, .int 60, .int 0, .int 1])) :: (q_13, .inr (6, [.ref q_14, .ref q_15, .int 20, .int 0, .int 3])) :: (q_14, .inl (cZ, 40, .inl (fun _ => 0))) :: (q_15, .inl (cI, 40, .inl (fun _ => 0))) :: (q_16, .inl (cP, 8, .inr (.inr (.inr (.inr (fun _ => none)))))) :: (q_17, .inl (cI, 3, .inl (zL3 5 10 50))) :: (q_18, .inr (5, [.ref q_21, .ref q_22, .ref q_23, .ref q_24, .int 0, .int 0, .int 0])) :: (q_21, .inl (cI, 125, .inl (fun _ => 0))) :: (q_22, .inl (cI, 125, .inl (fun _ => 0))) :: (q_23, .inl (cI, 3, .inl (fun _ => 0))) :: (q_24, .inl (cP, 8, .inr (.inr (.inr (.inr (fun _ => none)))))) :: (q_25, .inr (3, [.ref q_28, .ref q_29, .int 0, .int 0, .int 0, .int (-1), .int 0, .int 0])) :: (q_28, .inl (cI, 132, .inl (fun _ => 0))) :: (q_29, .inl (cI, 160, .inl (fun _ => 0))) :: (q_30, .inr (1, [.null, .int 0, .int 0, .int 0, .int 0])) :: [])) hP hD rfl
  clear hP hD
  obtain ⟨hP, hD⟩ := h9R
  refine W.widen (k := 22) (n := 791) (Nat.le_of_ble_eq_true rfl) (Nat.le_of_ble_eq_true rfl) ?_
  refine lv_dup hx hb dX7_init_61 rfl ?_
  skip
  refine zw_IN (As := []) (rest := [.ref q_30, .ref x0]) (wr := ((x0, .inr (7, [.ref q_1, .ref q_2, .ref q_10, .ref q_18, .ref q_25, .null, .null, .int 0, .int 0])) :: (q_1, .inl (cS, 8, .inr (.inr (.inr (.inr (fun _ => none)))))) :: (q_2, .inr (0, [.ref q_5, .ref q_8, .ref q_9, .int 0, .int 0, .int 0, .int 60, .int 0, .int 1])) :: (q_5, .inr (6, [.ref q_6, .ref q_7, .int 20, .int 0, .int 3])) :: (q_6, .inl (cZ, 40, .inl (fun _ => 0))) :: (q_7, .inl (cI, 40, .inl (fun _ => 0))) :: (q_8, .inl (cP, 8, .inr (.inr (.inr (.inr (fun _ => none)))))) :: (q_9, .inl (cI, 3, .inl (zL3 5 10 50))) :: (q_10, .inr (0, [.ref q_13, .ref q_16, .ref q_17, .int 0, .int 0, .int 0, .int 60, .int 0, .int 1])) :: (q_13, .inr (6, [.ref q_14, .ref q_15, .int 20, .int 0, .int 3])) :: (q_14, .inl (cZ, 40, .inl (fun _ => 0))) :: (q_15, .inl (cI, 40, .inl (fun _ => 0))) :: (q_16, .inl (cP, 8, .inr (.inr (.inr (.inr (fun _ => none)))))) :: (q_17, .inl (cI, 3, .inl (zL3 5 10 50))) :: (q_18, .inr (5, [.ref q_21, .ref q_22, .ref q_23, .ref q_24, .int 0, .int 0, .int 0])) :: (q_21, .inl (cI, 125, .inl (fun _ => 0))) :: (q_22, .inl (cI, 125, .inl (fun _ => 0))) :: (q_23, .inl (cI, 3, .inl (fun _ => 0))) :: (q_24, .inl (cP, 8, .inr (.inr (.inr (.inr (fun _ => none)))))) :: (q_25, .inr (3, [.ref q_28, .ref q_29, .int 0, .int 0, .int 0, .int (-1), .int 0, .int 0])) :: (q_28, .inl (cI, 132, .inl (fun _ => 0))) :: (q_29, .inl (cI, 160, .inl (fun _ => 0))) :: [])) ⟨hx, hb, hml, hown, hts⟩ (c_Moves_init l D cI cJ cZ cP cS po q_30  H.size) ⟨(va_cnB 0 hts gX7_init_X1_init_n41 rfl rfl rfl (hN.1 (RX7, 41, yX1_init) (List.mem_of_getElem? (i := 4) rfl)) (hts _ (List.mem_of_getElem? (i := 21) rfl)) dh_X1_init ⟨Nat.le_of_ble_eq_true rfl, Nat.le_of_ble_eq_true rfl⟩), rfl, (hts _ (List.mem_of_getElem? (i := 76) rfl))⟩ hK hN (hZ.kept hS) hP hD hS hA [22] [0, 1, 2, 3, 4, 5, 6, 7, 8, 9, 10, 11, 12, 13, 14, 15, 16, 17, 18, 19, 20, 21] rfl rfl (by decide) (by decide) (by decide) rfl hl.1 rfl (Nat.le_of_ble_eq_true rfl) dX7_init_62 ⟨Nat.le_of_ble_eq_true rfl, Nat.le_of_ble_eq_true rfl⟩ (fun u_32 H locs hr_31 hP hD hS => ?_)
  obtain ⟨q_33, rfl⟩ : ∃ z, z = u_32 := ⟨_, rfl⟩
  have h9R := zRe (ws' := ((x0, .inr (7, [.ref q_1, .ref q_2, .ref q_10, .ref q_18, .ref q_25, .null, .null, .int 0, .int 0])) :: (q_1, .inl (cS, 8, .inr (.inr (.inr (.inr (fun _ => none)))))) :: (q_2, .inr (0, [.ref q_5, .ref q_8, .ref q_9, .int 0, .int 0, .int 0, .int 60, .int 0, .int 1])) :: (q_5, .inr (6, [.ref q_6, .ref q_7, .int 20, .int 0, .int 3])) :: (q_6, .inl (cZ, 40, .inl (fun _ => 0))) :: (q_7, .inl (cI, 40, .inl (fun _ => 0))) :: (q_8, .inl (cP, 8, .inr (.inr (.inr (.inr (fun _ => none)))))) :: (q_9, .inl (cI, 3, .inl (zL3 5 10 50))) :: (q_10, .inr (0, [.ref q_13, .ref q_16, .ref q_17, .int 0, .int 0, .int 0, .int 60, .int 0, .int 1])) :: (q_13, .inr (6, [.ref q_14, .ref q_15, .int 20, .int 0, .int 3])) :: (q_14, .inl (cZ, 40, .inl (fun _ => 0))) :: (q_15, .inl (cI, 40, .inl (fun _ => 0))) :: (q_16, .inl (cP, 8, .inr (.inr (.inr (.inr (fun _ => none)))))) :: (q_17, .inl (cI, 3, .inl (zL3 5 10 50))) :: (q_18, .inr (5, [.ref q_21, .ref q_22, .ref q_23, .ref q_24, .int 0, .int 0, .int 0])) :: (q_21, .inl (cI, 125, .inl (fun _ => 0))) :: (q_22, .inl (cI, 125, .inl (fun _ => 0))) :: (q_23, .inl (cI, 3, .inl (fun _ => 0))) :: (q_24, .inl (cP, 8, .inr (.inr (.inr (.inr (fun _ => none)))))) :: (q_25, .inr (3, [.ref q_28, .ref q_29, .int 0, .int 0, .int 0, .int (-1), .int 0, .int 0])) :: (q_28, .inl (cI, 132, .inl (fun _ => 0))) :: (q_29, .inl (cI, 160, .inl (fun _ => 0))) :: (q_30, .inr (1, [.ref q_33, .int 0, .int 0, .int 0, .int 0])) :: (q_33, .inl (cI, 20, .inl (fun _ => 0))) :: [])) hP hD rfl
  clear hP hD
  obtain ⟨hP, hD⟩ := h9R
  refine W.widen (k := 23) (n := 811) (Nat.le_of_ble_eq_true rfl) (Nat.le_of_ble_eq_true rfl) ?_
  refine va_putF (D := D) (ci := 7) (v := .ref q_30) (ty := (.object "TheLiningsInIt$Moves")) (C := RX7) (T := TX7) (N := 9) hx hb hts hi_X7_init_7 tyX7 tyX7_ok nmX7 hown hK hP hD hS 0 rfl rfl 5 (by decide) (hts (.fieldLink RX7 42 "TheLiningsInIt" "moves" "LTheLiningsInIt$Moves;") (List.mem_of_getElem? (i := 22) rfl)) (fun _ h9 => h9) rfl hin rfl (tyX7_ok 5 (Nat.le_of_ble_eq_true rfl)) rfl rfl (Nat.le_of_ble_eq_true rfl) dX7_init_65 (fun H locs hP hD hS => ?_)
  have h9R := zRe (ws' := ((x0, .inr (7, [.ref q_1, .ref q_2, .ref q_10, .ref q_18, .ref q_25, .ref q_30, .null, .int 0, .int 0])) :: (q_1, .inl (cS, 8, .inr (.inr (.inr (.inr (fun _ => none)))))) :: (q_2, .inr (0, [.ref q_5, .ref q_8, .ref q_9, .int 0, .int 0, .int 0, .int 60, .int 0, .int 1])) :: (q_5, .inr (6, [.ref q_6, .ref q_7, .int 20, .int 0, .int 3])) :: (q_6, .inl (cZ, 40, .inl (fun _ => 0))) :: (q_7, .inl (cI, 40, .inl (fun _ => 0))) :: (q_8, .inl (cP, 8, .inr (.inr (.inr (.inr (fun _ => none)))))) :: (q_9, .inl (cI, 3, .inl (zL3 5 10 50))) :: (q_10, .inr (0, [.ref q_13, .ref q_16, .ref q_17, .int 0, .int 0, .int 0, .int 60, .int 0, .int 1])) :: (q_13, .inr (6, [.ref q_14, .ref q_15, .int 20, .int 0, .int 3])) :: (q_14, .inl (cZ, 40, .inl (fun _ => 0))) :: (q_15, .inl (cI, 40, .inl (fun _ => 0))) :: (q_16, .inl (cP, 8, .inr (.inr (.inr (.inr (fun _ => none)))))) :: (q_17, .inl (cI, 3, .inl (zL3 5 10 50))) :: (q_18, .inr (5, [.ref q_21, .ref q_22, .ref q_23, .ref q_24, .int 0, .int 0, .int 0])) :: (q_21, .inl (cI, 125, .inl (fun _ => 0))) :: (q_22, .inl (cI, 125, .inl (fun _ => 0))) :: (q_23, .inl (cI, 3, .inl (fun _ => 0))) :: (q_24, .inl (cP, 8, .inr (.inr (.inr (.inr (fun _ => none)))))) :: (q_25, .inr (3, [.ref q_28, .ref q_29, .int 0, .int 0, .int 0, .int (-1), .int 0, .int 0])) :: (q_28, .inl (cI, 132, .inl (fun _ => 0))) :: (q_29, .inl (cI, 160, .inl (fun _ => 0))) :: (q_30, .inr (1, [.ref q_33, .int 0, .int 0, .int 0, .int 0])) :: (q_33, .inl (cI, 20, .inl (fun _ => 0))) :: [])) hP hD rfl
  clear hP hD
  obtain ⟨hP, hD⟩ := h9R
  refine lv_aload_n hx hb dX7_init_68 rfl (lv_at hl 0 rfl) ?_
  refine lv_bipush (v := 8) hx hb dX7_init_69 (by decide) ?_
  refine va_newa hx hb (atype := .int) (hts _ (List.mem_of_getElem? (i := 23) rfl)) rfl hK hP hD hS hA (N' := 8) (a0 := (8, .inl (fun _ => 0))) (fun _ => rfl) (by decide) (by decide) (Nat.le_of_ble_eq_true rfl) (Nat.le_of_ble_eq_true rfl) (Nat.le_of_ble_eq_true rfl) dX7_init_71 (fun q_34 cA H hK1 hP hD hS => ?_)
  obtain rfl : cI = cA := zk_eqI (k := 0) hK rfl hK1
  have h9R := zRe (ws' := ((x0, .inr (7, [.ref q_1, .ref q_2, .ref q_10, .ref q_18, .ref q_25, .ref q_30, .null, .int 0, .int 0])) :: (q_1, .inl (cS, 8, .inr (.inr (.inr (.inr (fun _ => none)))))) :: (q_2, .inr (0, [.ref q_5, .ref q_8, .ref q_9, .int 0, .int 0, .int 0, .int 60, .int 0, .int 1])) :: (q_5, .inr (6, [.ref q_6, .ref q_7, .int 20, .int 0, .int 3])) :: (q_6, .inl (cZ, 40, .inl (fun _ => 0))) :: (q_7, .inl (cI, 40, .inl (fun _ => 0))) :: (q_8, .inl (cP, 8, .inr (.inr (.inr (.inr (fun _ => none)))))) :: (q_9, .inl (cI, 3, .inl (zL3 5 10 50))) :: (q_10, .inr (0, [.ref q_13, .ref q_16, .ref q_17, .int 0, .int 0, .int 0, .int 60, .int 0, .int 1])) :: (q_13, .inr (6, [.ref q_14, .ref q_15, .int 20, .int 0, .int 3])) :: (q_14, .inl (cZ, 40, .inl (fun _ => 0))) :: (q_15, .inl (cI, 40, .inl (fun _ => 0))) :: (q_16, .inl (cP, 8, .inr (.inr (.inr (.inr (fun _ => none)))))) :: (q_17, .inl (cI, 3, .inl (zL3 5 10 50))) :: (q_18, .inr (5, [.ref q_21, .ref q_22, .ref q_23, .ref q_24, .int 0, .int 0, .int 0])) :: (q_21, .inl (cI, 125, .inl (fun _ => 0))) :: (q_22, .inl (cI, 125, .inl (fun _ => 0))) :: (q_23, .inl (cI, 3, .inl (fun _ => 0))) :: (q_24, .inl (cP, 8, .inr (.inr (.inr (.inr (fun _ => none)))))) :: (q_25, .inr (3, [.ref q_28, .ref q_29, .int 0, .int 0, .int 0, .int (-1), .int 0, .int 0])) :: (q_28, .inl (cI, 132, .inl (fun _ => 0))) :: (q_29, .inl (cI, 160, .inl (fun _ => 0))) :: (q_30, .inr (1, [.ref q_33, .int 0, .int 0, .int 0, .int 0])) :: (q_33, .inl (cI, 20, .inl (fun _ => 0))) :: (q_34, .inl (cI, 8, .inl (fun _ => 0))) :: [])) hP hD rfl
  clear hP hD
  obtain ⟨hP, hD⟩ := h9R
  refine W.widen (k := 24) (n := 819) (Nat.le_of_ble_eq_true rfl) (Nat.le_of_ble_eq_true rfl) ?_
  refine va_putF (D := D) (ci := 7) (v := .ref q_34) (ty := (.array .int)) (C := RX7) (T := TX7) (N := 9) hx hb hts hi_X7_init_7 tyX7 tyX7_ok nmX7 hown hK hP hD hS 0 rfl rfl 6 (by decide) (hts (.fieldLink RX7 46 "TheLiningsInIt" "refusals" "[I") (List.mem_of_getElem? (i := 24) rfl)) (fun _ h9 => h9) rfl hin rfl (tyX7_ok 6 (Nat.le_of_ble_eq_true rfl)) rfl rfl (Nat.le_of_ble_eq_true rfl) dX7_init_73 (fun H locs hP hD hS => ?_)
  have h9R := zRe (ws' := ((x0, .inr (7, [.ref q_1, .ref q_2, .ref q_10, .ref q_18, .ref q_25, .ref q_30, .ref q_34, .int 0, .int 0])) :: (q_1, .inl (cS, 8, .inr (.inr (.inr (.inr (fun _ => none)))))) :: (q_2, .inr (0, [.ref q_5, .ref q_8, .ref q_9, .int 0, .int 0, .int 0, .int 60, .int 0, .int 1])) :: (q_5, .inr (6, [.ref q_6, .ref q_7, .int 20, .int 0, .int 3])) :: (q_6, .inl (cZ, 40, .inl (fun _ => 0))) :: (q_7, .inl (cI, 40, .inl (fun _ => 0))) :: (q_8, .inl (cP, 8, .inr (.inr (.inr (.inr (fun _ => none)))))) :: (q_9, .inl (cI, 3, .inl (zL3 5 10 50))) :: (q_10, .inr (0, [.ref q_13, .ref q_16, .ref q_17, .int 0, .int 0, .int 0, .int 60, .int 0, .int 1])) :: (q_13, .inr (6, [.ref q_14, .ref q_15, .int 20, .int 0, .int 3])) :: (q_14, .inl (cZ, 40, .inl (fun _ => 0))) :: (q_15, .inl (cI, 40, .inl (fun _ => 0))) :: (q_16, .inl (cP, 8, .inr (.inr (.inr (.inr (fun _ => none)))))) :: (q_17, .inl (cI, 3, .inl (zL3 5 10 50))) :: (q_18, .inr (5, [.ref q_21, .ref q_22, .ref q_23, .ref q_24, .int 0, .int 0, .int 0])) :: (q_21, .inl (cI, 125, .inl (fun _ => 0))) :: (q_22, .inl (cI, 125, .inl (fun _ => 0))) :: (q_23, .inl (cI, 3, .inl (fun _ => 0))) :: (q_24, .inl (cP, 8, .inr (.inr (.inr (.inr (fun _ => none)))))) :: (q_25, .inr (3, [.ref q_28, .ref q_29, .int 0, .int 0, .int 0, .int (-1), .int 0, .int 0])) :: (q_28, .inl (cI, 132, .inl (fun _ => 0))) :: (q_29, .inl (cI, 160, .inl (fun _ => 0))) :: (q_30, .inr (1, [.ref q_33, .int 0, .int 0, .int 0, .int 0])) :: (q_33, .inl (cI, 20, .inl (fun _ => 0))) :: (q_34, .inl (cI, 8, .inl (fun _ => 0))) :: [])) hP hD rfl
  clear hP hD
  obtain ⟨hP, hD⟩ := h9R
  refine lv_aload_n hx hb dX7_init_76 rfl (lv_at hl 0 rfl) ?_
  refine lv_iconst (v := 0) hx hb dX7_init_77 (by decide) ?_
  refine va_put (D := D) (ci := 7) (v := .int 0) (ty := .boolean) (C := RX7) (T := TX7) (N := 9) hx hb hts hi_X7_init_7 tyX7 tyX7_ok nmX7 hown hK hP hD hS 0 rfl rfl 7 (by decide) (hts (.fieldLink RX7 50 "TheLiningsInIt" "imaged" "Z") (List.mem_of_getElem? (i := 25) rfl)) (fun _ h9 => h9) rfl (tyX7_ok 7 (Nat.le_of_ble_eq_true rfl)) rfl rfl (Nat.le_of_ble_eq_true rfl) dX7_init_78 (fun H locs hP hD hS => ?_)
  have h9R := zRe (ws' := ((x0, .inr (7, [.ref q_1, .ref q_2, .ref q_10, .ref q_18, .ref q_25, .ref q_30, .ref q_34, .int 0, .int 0])) :: (q_1, .inl (cS, 8, .inr (.inr (.inr (.inr (fun _ => none)))))) :: (q_2, .inr (0, [.ref q_5, .ref q_8, .ref q_9, .int 0, .int 0, .int 0, .int 60, .int 0, .int 1])) :: (q_5, .inr (6, [.ref q_6, .ref q_7, .int 20, .int 0, .int 3])) :: (q_6, .inl (cZ, 40, .inl (fun _ => 0))) :: (q_7, .inl (cI, 40, .inl (fun _ => 0))) :: (q_8, .inl (cP, 8, .inr (.inr (.inr (.inr (fun _ => none)))))) :: (q_9, .inl (cI, 3, .inl (zL3 5 10 50))) :: (q_10, .inr (0, [.ref q_13, .ref q_16, .ref q_17, .int 0, .int 0, .int 0, .int 60, .int 0, .int 1])) :: (q_13, .inr (6, [.ref q_14, .ref q_15, .int 20, .int 0, .int 3])) :: (q_14, .inl (cZ, 40, .inl (fun _ => 0))) :: (q_15, .inl (cI, 40, .inl (fun _ => 0))) :: (q_16, .inl (cP, 8, .inr (.inr (.inr (.inr (fun _ => none)))))) :: (q_17, .inl (cI, 3, .inl (zL3 5 10 50))) :: (q_18, .inr (5, [.ref q_21, .ref q_22, .ref q_23, .ref q_24, .int 0, .int 0, .int 0])) :: (q_21, .inl (cI, 125, .inl (fun _ => 0))) :: (q_22, .inl (cI, 125, .inl (fun _ => 0))) :: (q_23, .inl (cI, 3, .inl (fun _ => 0))) :: (q_24, .inl (cP, 8, .inr (.inr (.inr (.inr (fun _ => none)))))) :: (q_25, .inr (3, [.ref q_28, .ref q_29, .int 0, .int 0, .int 0, .int (-1), .int 0, .int 0])) :: (q_28, .inl (cI, 132, .inl (fun _ => 0))) :: (q_29, .inl (cI, 160, .inl (fun _ => 0))) :: (q_30, .inr (1, [.ref q_33, .int 0, .int 0, .int 0, .int 0])) :: (q_33, .inl (cI, 20, .inl (fun _ => 0))) :: (q_34, .inl (cI, 8, .inl (fun _ => 0))) :: [])) hP hD rfl
  clear hP hD
  obtain ⟨hP, hD⟩ := h9R
  refine lv_aload_n hx hb dX7_init_81 rfl (lv_at hl 0 rfl) ?_
  refine lv_iconst (v := (-1)) hx hb dX7_init_82 (by decide) ?_
  refine va_put (D := D) (ci := 7) (v := .int (-1)) (ty := .int) (C := RX7) (T := TX7) (N := 9) hx hb hts hi_X7_init_7 tyX7 tyX7_ok nmX7 hown hK hP hD hS 0 rfl rfl 8 (by decide) (hts (.fieldLink RX7 54 "TheLiningsInIt" "latestFault" "I") (List.mem_of_getElem? (i := 26) rfl)) (fun _ h9 => h9) rfl (tyX7_ok 8 (Nat.le_of_ble_eq_true rfl)) rfl rfl (Nat.le_of_ble_eq_true rfl) dX7_init_83 (fun H locs hP hD hS => ?_)
  have h9R := zRe (ws' := ((x0, .inr (7, [.ref q_1, .ref q_2, .ref q_10, .ref q_18, .ref q_25, .ref q_30, .ref q_34, .int 0, .int (-1)])) :: (q_1, .inl (cS, 8, .inr (.inr (.inr (.inr (fun _ => none)))))) :: (q_2, .inr (0, [.ref q_5, .ref q_8, .ref q_9, .int 0, .int 0, .int 0, .int 60, .int 0, .int 1])) :: (q_5, .inr (6, [.ref q_6, .ref q_7, .int 20, .int 0, .int 3])) :: (q_6, .inl (cZ, 40, .inl (fun _ => 0))) :: (q_7, .inl (cI, 40, .inl (fun _ => 0))) :: (q_8, .inl (cP, 8, .inr (.inr (.inr (.inr (fun _ => none)))))) :: (q_9, .inl (cI, 3, .inl (zL3 5 10 50))) :: (q_10, .inr (0, [.ref q_13, .ref q_16, .ref q_17, .int 0, .int 0, .int 0, .int 60, .int 0, .int 1])) :: (q_13, .inr (6, [.ref q_14, .ref q_15, .int 20, .int 0, .int 3])) :: (q_14, .inl (cZ, 40, .inl (fun _ => 0))) :: (q_15, .inl (cI, 40, .inl (fun _ => 0))) :: (q_16, .inl (cP, 8, .inr (.inr (.inr (.inr (fun _ => none)))))) :: (q_17, .inl (cI, 3, .inl (zL3 5 10 50))) :: (q_18, .inr (5, [.ref q_21, .ref q_22, .ref q_23, .ref q_24, .int 0, .int 0, .int 0])) :: (q_21, .inl (cI, 125, .inl (fun _ => 0))) :: (q_22, .inl (cI, 125, .inl (fun _ => 0))) :: (q_23, .inl (cI, 3, .inl (fun _ => 0))) :: (q_24, .inl (cP, 8, .inr (.inr (.inr (.inr (fun _ => none)))))) :: (q_25, .inr (3, [.ref q_28, .ref q_29, .int 0, .int 0, .int 0, .int (-1), .int 0, .int 0])) :: (q_28, .inl (cI, 132, .inl (fun _ => 0))) :: (q_29, .inl (cI, 160, .inl (fun _ => 0))) :: (q_30, .inr (1, [.ref q_33, .int 0, .int 0, .int 0, .int 0])) :: (q_33, .inl (cI, 20, .inl (fun _ => 0))) :: (q_34, .inl (cI, 8, .inl (fun _ => 0))) :: [])) hP hD rfl
  clear hP hD
  obtain ⟨hP, hD⟩ := h9R
  refine lv_iconst (v := 0) hx hb dX7_init_86 (by decide) ?_
  refine lv_istore_n (lv' := [(1, .int 0), (0, .ref x0)]) hx hb dX7_init_87 rfl hl (by decide) rfl (fun ls hl => ?_)
  refine lv_iload_n hx hb dX7_init_88 rfl (lv_at hl 0 rfl) ?_
  refine lv_bipush (v := 8) hx hb dX7_init_89 (by decide) ?_
  refine lv_icmp_ge (tgt := 113) hx hb dX7_init_91 (by decide) (fun c_35 => ?_) (fun c_35 => ?_)
  · exact absurd c_35 (by decide)
  · refine lv_aload_n hx hb dX7_init_94 rfl (lv_at hl 1 rfl) ?_
    refine va_get (D := D) (ci := 7) (v := .ref q_1) (C := RX7) (T := TX7) (N := 9) hx hb hts hi_X7_init_7 hown hK hP 0 rfl rfl 0 (by decide) (hts (.fieldLink RX7 11 "TheLiningsInIt" "shelves" "[LTheLiningsInIt$Shelf;") (List.mem_of_getElem? (i := 5) rfl)) (fun _ h9 => h9) rfl dX7_init_95 ?_
    refine lv_iload_n hx hb dX7_init_98 rfl (lv_at hl 0 rfl) ?_
    refine va_new (ci := 4) (fs := [.null, .int 0, .int 0]) (C := RX4) (T := TX4) (N := 3) hx hb hts hi_X7_init_4 tyX4 tyX4_ok hown (hts (.classLink RX7 9 RX4) (List.mem_of_getElem? (i := 4) rfl)) (hts _ (List.mem_of_getElem? (i := 27) rfl)) (hts _ (List.mem_of_getElem? (i := 28) rfl)) hK hP hD hS hA rfl (fun j hj => by rcases (show j = 0 ∨ j = 1 ∨ j = 2 by omega) with rfl | rfl | rfl <;> rfl) (Nat.le_of_ble_eq_true rfl) (Nat.le_of_ble_eq_true rfl) dX7_init_99 (fun q_36 H hP hD hS => ?_)
    have h9R := zRe (ws' := ((x0, .inr (7, [.ref q_1, .ref q_2, .ref q_10, .ref q_18, .ref q_25, .ref q_30, .ref q_34, .int 0, .int (-1)])) :: (q_1, .inl (cS, 8, .inr (.inr (.inr (.inr (fun _ => none)))))) :: (q_2, .inr (0, [.ref q_5, .ref q_8, .ref q_9, .int 0, .int 0, .int 0, .int 60, .int 0, .int 1])) :: (q_5, .inr (6, [.ref q_6, .ref q_7, .int 20, .int 0, .int 3])) :: (q_6, .inl (cZ, 40, .inl (fun _ => 0))) :: (q_7, .inl (cI, 40, .inl (fun _ => 0))) :: (q_8, .inl (cP, 8, .inr (.inr (.inr (.inr (fun _ => none)))))) :: (q_9, .inl (cI, 3, .inl (zL3 5 10 50))) :: (q_10, .inr (0, [.ref q_13, .ref q_16, .ref q_17, .int 0, .int 0, .int 0, .int 60, .int 0, .int 1])) :: (q_13, .inr (6, [.ref q_14, .ref q_15, .int 20, .int 0, .int 3])) :: (q_14, .inl (cZ, 40, .inl (fun _ => 0))) :: (q_15, .inl (cI, 40, .inl (fun _ => 0))) :: (q_16, .inl (cP, 8, .inr (.inr (.inr (.inr (fun _ => none)))))) :: (q_17, .inl (cI, 3, .inl (zL3 5 10 50))) :: (q_18, .inr (5, [.ref q_21, .ref q_22, .ref q_23, .ref q_24, .int 0, .int 0, .int 0])) :: (q_21, .inl (cI, 125, .inl (fun _ => 0))) :: (q_22, .inl (cI, 125, .inl (fun _ => 0))) :: (q_23, .inl (cI, 3, .inl (fun _ => 0))) :: (q_24, .inl (cP, 8, .inr (.inr (.inr (.inr (fun _ => none)))))) :: (q_25, .inr (3, [.ref q_28, .ref q_29, .int 0, .int 0, .int 0, .int (-1), .int 0, .int 0])) :: (q_28, .inl (cI, 132, .inl (fun _ => 0))) :: (q_29, .inl (cI, 160, .inl (fun _ => 0))) :: (q_30, .inr (1, [.ref q_33, .int 0, .int 0, .int 0, .int 0])) :: (q_33, .inl (cI, 20, .inl (fun _ => 0))) :: (q_34, .inl (cI, 8, .inl (fun _ => 0))) :: (q_36, .inr (4, [.null, .int 0, .int 0])) :: [])) hP hD rfl
    clear hP hD
    obtain ⟨hP, hD⟩ := h9R
    refine W.widen (k := 25) (n := 822) (Nat.le_of_ble_eq_true rfl) (Nat.le_of_ble_eq_true rfl) ?_
    refine lv_dup hx hb dX7_init_102 rfl ?_
    skip
    refine zw_IN (As := []) (rest := [.ref q_36, .int 0, .ref q_1]) (wr := ((x0, .inr (7, [.ref q_1, .ref q_2, .ref q_10, .ref q_18, .ref q_25, .ref q_30, .ref q_34, .int 0, .int (-1)])) :: (q_1, .inl (cS, 8, .inr (.inr (.inr (.inr (fun _ => none)))))) :: (q_2, .inr (0, [.ref q_5, .ref q_8, .ref q_9, .int 0, .int 0, .int 0, .int 60, .int 0, .int 1])) :: (q_5, .inr (6, [.ref q_6, .ref q_7, .int 20, .int 0, .int 3])) :: (q_6, .inl (cZ, 40, .inl (fun _ => 0))) :: (q_7, .inl (cI, 40, .inl (fun _ => 0))) :: (q_8, .inl (cP, 8, .inr (.inr (.inr (.inr (fun _ => none)))))) :: (q_9, .inl (cI, 3, .inl (zL3 5 10 50))) :: (q_10, .inr (0, [.ref q_13, .ref q_16, .ref q_17, .int 0, .int 0, .int 0, .int 60, .int 0, .int 1])) :: (q_13, .inr (6, [.ref q_14, .ref q_15, .int 20, .int 0, .int 3])) :: (q_14, .inl (cZ, 40, .inl (fun _ => 0))) :: (q_15, .inl (cI, 40, .inl (fun _ => 0))) :: (q_16, .inl (cP, 8, .inr (.inr (.inr (.inr (fun _ => none)))))) :: (q_17, .inl (cI, 3, .inl (zL3 5 10 50))) :: (q_18, .inr (5, [.ref q_21, .ref q_22, .ref q_23, .ref q_24, .int 0, .int 0, .int 0])) :: (q_21, .inl (cI, 125, .inl (fun _ => 0))) :: (q_22, .inl (cI, 125, .inl (fun _ => 0))) :: (q_23, .inl (cI, 3, .inl (fun _ => 0))) :: (q_24, .inl (cP, 8, .inr (.inr (.inr (.inr (fun _ => none)))))) :: (q_25, .inr (3, [.ref q_28, .ref q_29, .int 0, .int 0, .int 0, .int (-1), .int 0, .int 0])) :: (q_28, .inl (cI, 132, .inl (fun _ => 0))) :: (q_29, .inl (cI, 160, .inl (fun _ => 0))) :: (q_30, .inr (1, [.ref q_33, .int 0, .int 0, .int 0, .int 0])) :: (q_33, .inl (cI, 20, .inl (fun _ => 0))) :: (q_34, .inl (cI, 8, .inl (fun _ => 0))) :: [])) ⟨hx, hb, hml, hown, hts⟩ (c_Shelf_init l D cI cJ cZ cP cS po q_36  H.size) ⟨(va_cnB 0 hts gX7_init_X4_init_n58 rfl rfl rfl (hN.1 (RX7, 58, yX4_init) (List.mem_of_getElem? (i := 5) rfl)) (hts _ (List.mem_of_getElem? (i := 28) rfl)) dh_X4_init ⟨Nat.le_of_ble_eq_true rfl, Nat.le_of_ble_eq_true rfl⟩), rfl, (hts _ (List.mem_of_getElem? (i := 84) rfl))⟩ hK hN (hZ.kept hS) hP hD hS hA [25] [0, 1, 2, 3, 4, 5, 6, 7, 8, 9, 10, 11, 12, 13, 14, 15, 16, 17, 18, 19, 20, 21, 22, 23, 24] rfl rfl (by decide) (by decide) (by decide) rfl hl.1 rfl (Nat.le_of_ble_eq_true rfl) dX7_init_103 ⟨Nat.le_of_ble_eq_true rfl, Nat.le_of_ble_eq_true rfl⟩ (fun u_38 H locs hr_37 hP hD hS => ?_)
    obtain ⟨q_39, rfl⟩ : ∃ z, z = u_38 := ⟨_, rfl⟩
    have h9R := zRe (ws' := ((x0, .inr (7, [.ref q_1, .ref q_2, .ref q_10, .ref q_18, .ref q_25, .ref q_30, .ref q_34, .int 0, .int (-1)])) :: (q_1, .inl (cS, 8, .inr (.inr (.inr (.inr (fun _ => none)))))) :: (q_2, .inr (0, [.ref q_5, .ref q_8, .ref q_9, .int 0, .int 0, .int 0, .int 60, .int 0, .int 1])) :: (q_5, .inr (6, [.ref q_6, .ref q_7, .int 20, .int 0, .int 3])) :: (q_6, .inl (cZ, 40, .inl (fun _ => 0))) :: (q_7, .inl (cI, 40, .inl (fun _ => 0))) :: (q_8, .inl (cP, 8, .inr (.inr (.inr (.inr (fun _ => none)))))) :: (q_9, .inl (cI, 3, .inl (zL3 5 10 50))) :: (q_10, .inr (0, [.ref q_13, .ref q_16, .ref q_17, .int 0, .int 0, .int 0, .int 60, .int 0, .int 1])) :: (q_13, .inr (6, [.ref q_14, .ref q_15, .int 20, .int 0, .int 3])) :: (q_14, .inl (cZ, 40, .inl (fun _ => 0))) :: (q_15, .inl (cI, 40, .inl (fun _ => 0))) :: (q_16, .inl (cP, 8, .inr (.inr (.inr (.inr (fun _ => none)))))) :: (q_17, .inl (cI, 3, .inl (zL3 5 10 50))) :: (q_18, .inr (5, [.ref q_21, .ref q_22, .ref q_23, .ref q_24, .int 0, .int 0, .int 0])) :: (q_21, .inl (cI, 125, .inl (fun _ => 0))) :: (q_22, .inl (cI, 125, .inl (fun _ => 0))) :: (q_23, .inl (cI, 3, .inl (fun _ => 0))) :: (q_24, .inl (cP, 8, .inr (.inr (.inr (.inr (fun _ => none)))))) :: (q_25, .inr (3, [.ref q_28, .ref q_29, .int 0, .int 0, .int 0, .int (-1), .int 0, .int 0])) :: (q_28, .inl (cI, 132, .inl (fun _ => 0))) :: (q_29, .inl (cI, 160, .inl (fun _ => 0))) :: (q_30, .inr (1, [.ref q_33, .int 0, .int 0, .int 0, .int 0])) :: (q_33, .inl (cI, 20, .inl (fun _ => 0))) :: (q_34, .inl (cI, 8, .inl (fun _ => 0))) :: (q_36, .inr (4, [.ref q_39, .int (-1), .int 0])) :: (q_39, .inl (cJ, 160, .inr (.inl (fun _ => 0)))) :: [])) hP hD rfl
    clear hP hD
    obtain ⟨hP, hD⟩ := h9R
    refine W.widen (k := 26) (n := 982) (Nat.le_of_ble_eq_true rfl) (Nat.le_of_ble_eq_true rfl) ?_
    refine va_astq hx hb hK hP hD hS 1 4 25 4 rfl rfl rfl rfl (zf_in (by decide) (by decide)) dX7_init_106 (fun H locs hP hD hS => ?_)
    have h9R := zRe (ws' := ((x0, .inr (7, [.ref q_1, .ref q_2, .ref q_10, .ref q_18, .ref q_25, .ref q_30, .ref q_34, .int 0, .int (-1)])) :: (q_1, .inl (cS, 8, .inr (.inr (.inr (.inr (va_up (fun _ => none) (0 : Int32).toNatClampNeg (some q_36))))))) :: (q_2, .inr (0, [.ref q_5, .ref q_8, .ref q_9, .int 0, .int 0, .int 0, .int 60, .int 0, .int 1])) :: (q_5, .inr (6, [.ref q_6, .ref q_7, .int 20, .int 0, .int 3])) :: (q_6, .inl (cZ, 40, .inl (fun _ => 0))) :: (q_7, .inl (cI, 40, .inl (fun _ => 0))) :: (q_8, .inl (cP, 8, .inr (.inr (.inr (.inr (fun _ => none)))))) :: (q_9, .inl (cI, 3, .inl (zL3 5 10 50))) :: (q_10, .inr (0, [.ref q_13, .ref q_16, .ref q_17, .int 0, .int 0, .int 0, .int 60, .int 0, .int 1])) :: (q_13, .inr (6, [.ref q_14, .ref q_15, .int 20, .int 0, .int 3])) :: (q_14, .inl (cZ, 40, .inl (fun _ => 0))) :: (q_15, .inl (cI, 40, .inl (fun _ => 0))) :: (q_16, .inl (cP, 8, .inr (.inr (.inr (.inr (fun _ => none)))))) :: (q_17, .inl (cI, 3, .inl (zL3 5 10 50))) :: (q_18, .inr (5, [.ref q_21, .ref q_22, .ref q_23, .ref q_24, .int 0, .int 0, .int 0])) :: (q_21, .inl (cI, 125, .inl (fun _ => 0))) :: (q_22, .inl (cI, 125, .inl (fun _ => 0))) :: (q_23, .inl (cI, 3, .inl (fun _ => 0))) :: (q_24, .inl (cP, 8, .inr (.inr (.inr (.inr (fun _ => none)))))) :: (q_25, .inr (3, [.ref q_28, .ref q_29, .int 0, .int 0, .int 0, .int (-1), .int 0, .int 0])) :: (q_28, .inl (cI, 132, .inl (fun _ => 0))) :: (q_29, .inl (cI, 160, .inl (fun _ => 0))) :: (q_30, .inr (1, [.ref q_33, .int 0, .int 0, .int 0, .int 0])) :: (q_33, .inl (cI, 20, .inl (fun _ => 0))) :: (q_34, .inl (cI, 8, .inl (fun _ => 0))) :: (q_36, .inr (4, [.ref q_39, .int (-1), .int 0])) :: (q_39, .inl (cJ, 160, .inr (.inl (fun _ => 0)))) :: [])) hP hD rfl
    clear hP hD
    obtain ⟨hP, hD⟩ := h9R
    refine lv_iinc (v := 1) (lv' := [(1, .int 1), (0, .ref x0)]) hx hb dX7_init_107 hl (k := 0) rfl (by decide) (by decide) rfl (fun ls hl => ?_)
    refine lv_goto (tgt := 88) hx hb dX7_init_110 (by decide) ?_
    refine lv_iload_n hx hb dX7_init_88 rfl (lv_at hl 0 rfl) ?_
    refine lv_bipush (v := 8) hx hb dX7_init_89 (by decide) ?_
    refine lv_icmp_ge (tgt := 113) hx hb dX7_init_91 (by decide) (fun c_40 => ?_) (fun c_40 => ?_)
    · exact absurd c_40 (by decide)
    · refine lv_aload_n hx hb dX7_init_94 rfl (lv_at hl 1 rfl) ?_
      refine va_get (D := D) (ci := 7) (v := .ref q_1) (C := RX7) (T := TX7) (N := 9) hx hb hts hi_X7_init_7 hown hK hP 0 rfl rfl 0 (by decide) (hts (.fieldLink RX7 11 "TheLiningsInIt" "shelves" "[LTheLiningsInIt$Shelf;") (List.mem_of_getElem? (i := 5) rfl)) (fun _ h9 => h9) rfl dX7_init_95 ?_
      refine lv_iload_n hx hb dX7_init_98 rfl (lv_at hl 0 rfl) ?_
      refine va_new (ci := 4) (fs := [.null, .int 0, .int 0]) (C := RX4) (T := TX4) (N := 3) hx hb hts hi_X7_init_4 tyX4 tyX4_ok hown (hts (.classLink RX7 9 RX4) (List.mem_of_getElem? (i := 4) rfl)) (hts _ (List.mem_of_getElem? (i := 27) rfl)) (hts _ (List.mem_of_getElem? (i := 28) rfl)) hK hP hD hS hA rfl (fun j hj => by rcases (show j = 0 ∨ j = 1 ∨ j = 2 by omega) with rfl | rfl | rfl <;> rfl) (Nat.le_of_ble_eq_true rfl) (Nat.le_of_ble_eq_true rfl) dX7_init_99 (fun q_41 H hP hD hS => ?_)
      have h9R := zRe (ws' := ((x0, .inr (7, [.ref q_1, .ref q_2, .ref q_10, .ref q_18, .ref q_25, .ref q_30, .ref q_34, .int 0, .int (-1)])) :: (q_1, .inl (cS, 8, .inr (.inr (.inr (.inr (va_up (fun _ => none) (0 : Int32).toNatClampNeg (some q_36))))))) :: (q_2, .inr (0, [.ref q_5, .ref q_8, .ref q_9, .int 0, .int 0, .int 0, .int 60, .int 0, .int 1])) :: (q_5, .inr (6, [.ref q_6, .ref q_7, .int 20, .int 0, .int 3])) :: (q_6, .inl (cZ, 40, .inl (fun _ => 0))) :: (q_7, .inl (cI, 40, .inl (fun _ => 0))) :: (q_8, .inl (cP, 8, .inr (.inr (.inr (.inr (fun _ => none)))))) :: (q_9, .inl (cI, 3, .inl (zL3 5 10 50))) :: (q_10, .inr (0, [.ref q_13, .ref q_16, .ref q_17, .int 0, .int 0, .int 0, .int 60, .int 0, .int 1])) :: (q_13, .inr (6, [.ref q_14, .ref q_15, .int 20, .int 0, .int 3])) :: (q_14, .inl (cZ, 40, .inl (fun _ => 0))) :: (q_15, .inl (cI, 40, .inl (fun _ => 0))) :: (q_16, .inl (cP, 8, .inr (.inr (.inr (.inr (fun _ => none)))))) :: (q_17, .inl (cI, 3, .inl (zL3 5 10 50))) :: (q_18, .inr (5, [.ref q_21, .ref q_22, .ref q_23, .ref q_24, .int 0, .int 0, .int 0])) :: (q_21, .inl (cI, 125, .inl (fun _ => 0))) :: (q_22, .inl (cI, 125, .inl (fun _ => 0))) :: (q_23, .inl (cI, 3, .inl (fun _ => 0))) :: (q_24, .inl (cP, 8, .inr (.inr (.inr (.inr (fun _ => none)))))) :: (q_25, .inr (3, [.ref q_28, .ref q_29, .int 0, .int 0, .int 0, .int (-1), .int 0, .int 0])) :: (q_28, .inl (cI, 132, .inl (fun _ => 0))) :: (q_29, .inl (cI, 160, .inl (fun _ => 0))) :: (q_30, .inr (1, [.ref q_33, .int 0, .int 0, .int 0, .int 0])) :: (q_33, .inl (cI, 20, .inl (fun _ => 0))) :: (q_34, .inl (cI, 8, .inl (fun _ => 0))) :: (q_36, .inr (4, [.ref q_39, .int (-1), .int 0])) :: (q_39, .inl (cJ, 160, .inr (.inl (fun _ => 0)))) :: (q_41, .inr (4, [.null, .int 0, .int 0])) :: [])) hP hD rfl
      clear hP hD
      obtain ⟨hP, hD⟩ := h9R
      refine W.widen (k := 27) (n := 985) (Nat.le_of_ble_eq_true rfl) (Nat.le_of_ble_eq_true rfl) ?_
      refine lv_dup hx hb dX7_init_102 rfl ?_
      skip
      refine zw_IN (As := []) (rest := [.ref q_41, .int 1, .ref q_1]) (wr := ((x0, .inr (7, [.ref q_1, .ref q_2, .ref q_10, .ref q_18, .ref q_25, .ref q_30, .ref q_34, .int 0, .int (-1)])) :: (q_1, .inl (cS, 8, .inr (.inr (.inr (.inr (va_up (fun _ => none) (0 : Int32).toNatClampNeg (some q_36))))))) :: (q_2, .inr (0, [.ref q_5, .ref q_8, .ref q_9, .int 0, .int 0, .int 0, .int 60, .int 0, .int 1])) :: (q_5, .inr (6, [.ref q_6, .ref q_7, .int 20, .int 0, .int 3])) :: (q_6, .inl (cZ, 40, .inl (fun _ => 0))) :: (q_7, .inl (cI, 40, .inl (fun _ => 0))) :: (q_8, .inl (cP, 8, .inr (.inr (.inr (.inr (fun _ => none)))))) :: (q_9, .inl (cI, 3, .inl (zL3 5 10 50))) :: (q_10, .inr (0, [.ref q_13, .ref q_16, .ref q_17, .int 0, .int 0, .int 0, .int 60, .int 0, .int 1])) :: (q_13, .inr (6, [.ref q_14, .ref q_15, .int 20, .int 0, .int 3])) :: (q_14, .inl (cZ, 40, .inl (fun _ => 0))) :: (q_15, .inl (cI, 40, .inl (fun _ => 0))) :: (q_16, .inl (cP, 8, .inr (.inr (.inr (.inr (fun _ => none)))))) :: (q_17, .inl (cI, 3, .inl (zL3 5 10 50))) :: (q_18, .inr (5, [.ref q_21, .ref q_22, .ref q_23, .ref q_24, .int 0, .int 0, .int 0])) :: (q_21, .inl (cI, 125, .inl (fun _ => 0))) :: (q_22, .inl (cI, 125, .inl (fun _ => 0))) :: (q_23, .inl (cI, 3, .inl (fun _ => 0))) :: (q_24, .inl (cP, 8, .inr (.inr (.inr (.inr (fun _ => none)))))) :: (q_25, .inr (3, [.ref q_28, .ref q_29, .int 0, .int 0, .int 0, .int (-1), .int 0, .int 0])) :: (q_28, .inl (cI, 132, .inl (fun _ => 0))) :: (q_29, .inl (cI, 160, .inl (fun _ => 0))) :: (q_30, .inr (1, [.ref q_33, .int 0, .int 0, .int 0, .int 0])) :: (q_33, .inl (cI, 20, .inl (fun _ => 0))) :: (q_34, .inl (cI, 8, .inl (fun _ => 0))) :: (q_36, .inr (4, [.ref q_39, .int (-1), .int 0])) :: (q_39, .inl (cJ, 160, .inr (.inl (fun _ => 0)))) :: [])) ⟨hx, hb, hml, hown, hts⟩ (c_Shelf_init l D cI cJ cZ cP cS po q_41  H.size) ⟨(va_cnB 0 hts gX7_init_X4_init_n58 rfl rfl rfl (hN.1 (RX7, 58, yX4_init) (List.mem_of_getElem? (i := 5) rfl)) (hts _ (List.mem_of_getElem? (i := 28) rfl)) dh_X4_init ⟨Nat.le_of_ble_eq_true rfl, Nat.le_of_ble_eq_true rfl⟩), rfl, (hts _ (List.mem_of_getElem? (i := 84) rfl))⟩ hK hN (hZ.kept hS) hP hD hS hA [27] [0, 1, 2, 3, 4, 5, 6, 7, 8, 9, 10, 11, 12, 13, 14, 15, 16, 17, 18, 19, 20, 21, 22, 23, 24, 25, 26] rfl rfl (by decide) (by decide) (by decide) rfl hl.1 rfl (Nat.le_of_ble_eq_true rfl) dX7_init_103 ⟨Nat.le_of_ble_eq_true rfl, Nat.le_of_ble_eq_true rfl⟩ (fun u_43 H locs hr_42 hP hD hS => ?_)
      obtain ⟨q_44, rfl⟩ : ∃ z, z = u_43 := ⟨_, rfl⟩
      have h9R := zRe (ws' := ((x0, .inr (7, [.ref q_1, .ref q_2, .ref q_10, .ref q_18, .ref q_25, .ref q_30, .ref q_34, .int 0, .int (-1)])) :: (q_1, .inl (cS, 8, .inr (.inr (.inr (.inr (va_up (fun _ => none) (0 : Int32).toNatClampNeg (some q_36))))))) :: (q_2, .inr (0, [.ref q_5, .ref q_8, .ref q_9, .int 0, .int 0, .int 0, .int 60, .int 0, .int 1])) :: (q_5, .inr (6, [.ref q_6, .ref q_7, .int 20, .int 0, .int 3])) :: (q_6, .inl (cZ, 40, .inl (fun _ => 0))) :: (q_7, .inl (cI, 40, .inl (fun _ => 0))) :: (q_8, .inl (cP, 8, .inr (.inr (.inr (.inr (fun _ => none)))))) :: (q_9, .inl (cI, 3, .inl (zL3 5 10 50))) :: (q_10, .inr (0, [.ref q_13, .ref q_16, .ref q_17, .int 0, .int 0, .int 0, .int 60, .int 0, .int 1])) :: (q_13, .inr (6, [.ref q_14, .ref q_15, .int 20, .int 0, .int 3])) :: (q_14, .inl (cZ, 40, .inl (fun _ => 0))) :: (q_15, .inl (cI, 40, .inl (fun _ => 0))) :: (q_16, .inl (cP, 8, .inr (.inr (.inr (.inr (fun _ => none)))))) :: (q_17, .inl (cI, 3, .inl (zL3 5 10 50))) :: (q_18, .inr (5, [.ref q_21, .ref q_22, .ref q_23, .ref q_24, .int 0, .int 0, .int 0])) :: (q_21, .inl (cI, 125, .inl (fun _ => 0))) :: (q_22, .inl (cI, 125, .inl (fun _ => 0))) :: (q_23, .inl (cI, 3, .inl (fun _ => 0))) :: (q_24, .inl (cP, 8, .inr (.inr (.inr (.inr (fun _ => none)))))) :: (q_25, .inr (3, [.ref q_28, .ref q_29, .int 0, .int 0, .int 0, .int (-1), .int 0, .int 0])) :: (q_28, .inl (cI, 132, .inl (fun _ => 0))) :: (q_29, .inl (cI, 160, .inl (fun _ => 0))) :: (q_30, .inr (1, [.ref q_33, .int 0, .int 0, .int 0, .int 0])) :: (q_33, .inl (cI, 20, .inl (fun _ => 0))) :: (q_34, .inl (cI, 8, .inl (fun _ => 0))) :: (q_36, .inr (4, [.ref q_39, .int (-1), .int 0])) :: (q_39, .inl (cJ, 160, .inr (.inl (fun _ => 0)))) :: (q_41, .inr (4, [.ref q_44, .int (-1), .int 0])) :: (q_44, .inl (cJ, 160, .inr (.inl (fun _ => 0)))) :: [])) hP hD rfl
      clear hP hD
      obtain ⟨hP, hD⟩ := h9R
      refine W.widen (k := 28) (n := 1145) (Nat.le_of_ble_eq_true rfl) (Nat.le_of_ble_eq_true rfl) ?_
      refine va_astq hx hb hK hP hD hS 1 4 27 4 rfl rfl rfl rfl (zf_in (by decide) (by decide)) dX7_init_106 (fun H locs hP hD hS => ?_)
      have h9R := zRe (ws' := ((x0, .inr (7, [.ref q_1, .ref q_2, .ref q_10, .ref q_18, .ref q_25, .ref q_30, .ref q_34, .int 0, .int (-1)])) :: (q_1, .inl (cS, 8, .inr (.inr (.inr (.inr (va_up (va_up (fun _ => none) (0 : Int32).toNatClampNeg (some q_36)) (1 : Int32).toNatClampNeg (some q_41))))))) :: (q_2, .inr (0, [.ref q_5, .ref q_8, .ref q_9, .int 0, .int 0, .int 0, .int 60, .int 0, .int 1])) :: (q_5, .inr (6, [.ref q_6, .ref q_7, .int 20, .int 0, .int 3])) :: (q_6, .inl (cZ, 40, .inl (fun _ => 0))) :: (q_7, .inl (cI, 40, .inl (fun _ => 0))) :: (q_8, .inl (cP, 8, .inr (.inr (.inr (.inr (fun _ => none)))))) :: (q_9, .inl (cI, 3, .inl (zL3 5 10 50))) :: (q_10, .inr (0, [.ref q_13, .ref q_16, .ref q_17, .int 0, .int 0, .int 0, .int 60, .int 0, .int 1])) :: (q_13, .inr (6, [.ref q_14, .ref q_15, .int 20, .int 0, .int 3])) :: (q_14, .inl (cZ, 40, .inl (fun _ => 0))) :: (q_15, .inl (cI, 40, .inl (fun _ => 0))) :: (q_16, .inl (cP, 8, .inr (.inr (.inr (.inr (fun _ => none)))))) :: (q_17, .inl (cI, 3, .inl (zL3 5 10 50))) :: (q_18, .inr (5, [.ref q_21, .ref q_22, .ref q_23, .ref q_24, .int 0, .int 0, .int 0])) :: (q_21, .inl (cI, 125, .inl (fun _ => 0))) :: (q_22, .inl (cI, 125, .inl (fun _ => 0))) :: (q_23, .inl (cI, 3, .inl (fun _ => 0))) :: (q_24, .inl (cP, 8, .inr (.inr (.inr (.inr (fun _ => none)))))) :: (q_25, .inr (3, [.ref q_28, .ref q_29, .int 0, .int 0, .int 0, .int (-1), .int 0, .int 0])) :: (q_28, .inl (cI, 132, .inl (fun _ => 0))) :: (q_29, .inl (cI, 160, .inl (fun _ => 0))) :: (q_30, .inr (1, [.ref q_33, .int 0, .int 0, .int 0, .int 0])) :: (q_33, .inl (cI, 20, .inl (fun _ => 0))) :: (q_34, .inl (cI, 8, .inl (fun _ => 0))) :: (q_36, .inr (4, [.ref q_39, .int (-1), .int 0])) :: (q_39, .inl (cJ, 160, .inr (.inl (fun _ => 0)))) :: (q_41, .inr (4, [.ref q_44, .int (-1), .int 0])) :: (q_44, .inl (cJ, 160, .inr (.inl (fun _ => 0)))) :: [])) hP hD rfl
      clear hP hD
      obtain ⟨hP, hD⟩ := h9R
      refine lv_iinc (v := 2) (lv' := [(1, .int 2), (0, .ref x0)]) hx hb dX7_init_107 hl (k := 0) rfl (by decide) (by decide) rfl (fun ls hl => ?_)
      refine lv_goto (tgt := 88) hx hb dX7_init_110 (by decide) ?_
      refine lv_iload_n hx hb dX7_init_88 rfl (lv_at hl 0 rfl) ?_
      refine lv_bipush (v := 8) hx hb dX7_init_89 (by decide) ?_
      refine lv_icmp_ge (tgt := 113) hx hb dX7_init_91 (by decide) (fun c_45 => ?_) (fun c_45 => ?_)
      · exact absurd c_45 (by decide)
      · refine lv_aload_n hx hb dX7_init_94 rfl (lv_at hl 1 rfl) ?_
        refine va_get (D := D) (ci := 7) (v := .ref q_1) (C := RX7) (T := TX7) (N := 9) hx hb hts hi_X7_init_7 hown hK hP 0 rfl rfl 0 (by decide) (hts (.fieldLink RX7 11 "TheLiningsInIt" "shelves" "[LTheLiningsInIt$Shelf;") (List.mem_of_getElem? (i := 5) rfl)) (fun _ h9 => h9) rfl dX7_init_95 ?_
        refine lv_iload_n hx hb dX7_init_98 rfl (lv_at hl 0 rfl) ?_
        refine va_new (ci := 4) (fs := [.null, .int 0, .int 0]) (C := RX4) (T := TX4) (N := 3) hx hb hts hi_X7_init_4 tyX4 tyX4_ok hown (hts (.classLink RX7 9 RX4) (List.mem_of_getElem? (i := 4) rfl)) (hts _ (List.mem_of_getElem? (i := 27) rfl)) (hts _ (List.mem_of_getElem? (i := 28) rfl)) hK hP hD hS hA rfl (fun j hj => by rcases (show j = 0 ∨ j = 1 ∨ j = 2 by omega) with rfl | rfl | rfl <;> rfl) (Nat.le_of_ble_eq_true rfl) (Nat.le_of_ble_eq_true rfl) dX7_init_99 (fun q_46 H hP hD hS => ?_)
        have h9R := zRe (ws' := ((x0, .inr (7, [.ref q_1, .ref q_2, .ref q_10, .ref q_18, .ref q_25, .ref q_30, .ref q_34, .int 0, .int (-1)])) :: (q_1, .inl (cS, 8, .inr (.inr (.inr (.inr (va_up (va_up (fun _ => none) (0 : Int32).toNatClampNeg (some q_36)) (1 : Int32).toNatClampNeg (some q_41))))))) :: (q_2, .inr (0, [.ref q_5, .ref q_8, .ref q_9, .int 0, .int 0, .int 0, .int 60, .int 0, .int 1])) :: (q_5, .inr (6, [.ref q_6, .ref q_7, .int 20, .int 0, .int 3])) :: (q_6, .inl (cZ, 40, .inl (fun _ => 0))) :: (q_7, .inl (cI, 40, .inl (fun _ => 0))) :: (q_8, .inl (cP, 8, .inr (.inr (.inr (.inr (fun _ => none)))))) :: (q_9, .inl (cI, 3, .inl (zL3 5 10 50))) :: (q_10, .inr (0, [.ref q_13, .ref q_16, .ref q_17, .int 0, .int 0, .int 0, .int 60, .int 0, .int 1])) :: (q_13, .inr (6, [.ref q_14, .ref q_15, .int 20, .int 0, .int 3])) :: (q_14, .inl (cZ, 40, .inl (fun _ => 0))) :: (q_15, .inl (cI, 40, .inl (fun _ => 0))) :: (q_16, .inl (cP, 8, .inr (.inr (.inr (.inr (fun _ => none)))))) :: (q_17, .inl (cI, 3, .inl (zL3 5 10 50))) :: (q_18, .inr (5, [.ref q_21, .ref q_22, .ref q_23, .ref q_24, .int 0, .int 0, .int 0])) :: (q_21, .inl (cI, 125, .inl (fun _ => 0))) :: (q_22, .inl (cI, 125, .inl (fun _ => 0))) :: (q_23, .inl (cI, 3, .inl (fun _ => 0))) :: (q_24, .inl (cP, 8, .inr (.inr (.inr (.inr (fun _ => none)))))) :: (q_25, .inr (3, [.ref q_28, .ref q_29, .int 0, .int 0, .int 0, .int (-1), .int 0, .int 0])) :: (q_28, .inl (cI, 132, .inl (fun _ => 0))) :: (q_29, .inl (cI, 160, .inl (fun _ => 0))) :: (q_30, .inr (1, [.ref q_33, .int 0, .int 0, .int 0, .int 0])) :: (q_33, .inl (cI, 20, .inl (fun _ => 0))) :: (q_34, .inl (cI, 8, .inl (fun _ => 0))) :: (q_36, .inr (4, [.ref q_39, .int (-1), .int 0])) :: (q_39, .inl (cJ, 160, .inr (.inl (fun _ => 0)))) :: (q_41, .inr (4, [.ref q_44, .int (-1), .int 0])) :: (q_44, .inl (cJ, 160, .inr (.inl (fun _ => 0)))) :: (q_46, .inr (4, [.null, .int 0, .int 0])) :: [])) hP hD rfl
        clear hP hD
        obtain ⟨hP, hD⟩ := h9R
        refine W.widen (k := 29) (n := 1148) (Nat.le_of_ble_eq_true rfl) (Nat.le_of_ble_eq_true rfl) ?_
        refine lv_dup hx hb dX7_init_102 rfl ?_
        skip
        refine zw_IN (As := []) (rest := [.ref q_46, .int 2, .ref q_1]) (wr := ((x0, .inr (7, [.ref q_1, .ref q_2, .ref q_10, .ref q_18, .ref q_25, .ref q_30, .ref q_34, .int 0, .int (-1)])) :: (q_1, .inl (cS, 8, .inr (.inr (.inr (.inr (va_up (va_up (fun _ => none) (0 : Int32).toNatClampNeg (some q_36)) (1 : Int32).toNatClampNeg (some q_41))))))) :: (q_2, .inr (0, [.ref q_5, .ref q_8, .ref q_9, .int 0, .int 0, .int 0, .int 60, .int 0, .int 1])) :: (q_5, .inr (6, [.ref q_6, .ref q_7, .int 20, .int 0, .int 3])) :: (q_6, .inl (cZ, 40, .inl (fun _ => 0))) :: (q_7, .inl (cI, 40, .inl (fun _ => 0))) :: (q_8, .inl (cP, 8, .inr (.inr (.inr (.inr (fun _ => none)))))) :: (q_9, .inl (cI, 3, .inl (zL3 5 10 50))) :: (q_10, .inr (0, [.ref q_13, .ref q_16, .ref q_17, .int 0, .int 0, .int 0, .int 60, .int 0, .int 1])) :: (q_13, .inr (6, [.ref q_14, .ref q_15, .int 20, .int 0, .int 3])) :: (q_14, .inl (cZ, 40, .inl (fun _ => 0))) :: (q_15, .inl (cI, 40, .inl (fun _ => 0))) :: (q_16, .inl (cP, 8, .inr (.inr (.inr (.inr (fun _ => none)))))) :: (q_17, .inl (cI, 3, .inl (zL3 5 10 50))) :: (q_18, .inr (5, [.ref q_21, .ref q_22, .ref q_23, .ref q_24, .int 0, .int 0, .int 0])) :: (q_21, .inl (cI, 125, .inl (fun _ => 0))) :: (q_22, .inl (cI, 125, .inl (fun _ => 0))) :: (q_23, .inl (cI, 3, .inl (fun _ => 0))) :: (q_24, .inl (cP, 8, .inr (.inr (.inr (.inr (fun _ => none)))))) :: (q_25, .inr (3, [.ref q_28, .ref q_29, .int 0, .int 0, .int 0, .int (-1), .int 0, .int 0])) :: (q_28, .inl (cI, 132, .inl (fun _ => 0))) :: (q_29, .inl (cI, 160, .inl (fun _ => 0))) :: (q_30, .inr (1, [.ref q_33, .int 0, .int 0, .int 0, .int 0])) :: (q_33, .inl (cI, 20, .inl (fun _ => 0))) :: (q_34, .inl (cI, 8, .inl (fun _ => 0))) :: (q_36, .inr (4, [.ref q_39, .int (-1), .int 0])) :: (q_39, .inl (cJ, 160, .inr (.inl (fun _ => 0)))) :: (q_41, .inr (4, [.ref q_44, .int (-1), .int 0])) :: (q_44, .inl (cJ, 160, .inr (.inl (fun _ => 0)))) :: [])) ⟨hx, hb, hml, hown, hts⟩ (c_Shelf_init l D cI cJ cZ cP cS po q_46  H.size) ⟨(va_cnB 0 hts gX7_init_X4_init_n58 rfl rfl rfl (hN.1 (RX7, 58, yX4_init) (List.mem_of_getElem? (i := 5) rfl)) (hts _ (List.mem_of_getElem? (i := 28) rfl)) dh_X4_init ⟨Nat.le_of_ble_eq_true rfl, Nat.le_of_ble_eq_true rfl⟩), rfl, (hts _ (List.mem_of_getElem? (i := 84) rfl))⟩ hK hN (hZ.kept hS) hP hD hS hA [29] [0, 1, 2, 3, 4, 5, 6, 7, 8, 9, 10, 11, 12, 13, 14, 15, 16, 17, 18, 19, 20, 21, 22, 23, 24, 25, 26, 27, 28] rfl rfl (by decide) (by decide) (by decide) rfl hl.1 rfl (Nat.le_of_ble_eq_true rfl) dX7_init_103 ⟨Nat.le_of_ble_eq_true rfl, Nat.le_of_ble_eq_true rfl⟩ (fun u_48 H locs hr_47 hP hD hS => ?_)
        obtain ⟨q_49, rfl⟩ : ∃ z, z = u_48 := ⟨_, rfl⟩
        have h9R := zRe (ws' := ((x0, .inr (7, [.ref q_1, .ref q_2, .ref q_10, .ref q_18, .ref q_25, .ref q_30, .ref q_34, .int 0, .int (-1)])) :: (q_1, .inl (cS, 8, .inr (.inr (.inr (.inr (va_up (va_up (fun _ => none) (0 : Int32).toNatClampNeg (some q_36)) (1 : Int32).toNatClampNeg (some q_41))))))) :: (q_2, .inr (0, [.ref q_5, .ref q_8, .ref q_9, .int 0, .int 0, .int 0, .int 60, .int 0, .int 1])) :: (q_5, .inr (6, [.ref q_6, .ref q_7, .int 20, .int 0, .int 3])) :: (q_6, .inl (cZ, 40, .inl (fun _ => 0))) :: (q_7, .inl (cI, 40, .inl (fun _ => 0))) :: (q_8, .inl (cP, 8, .inr (.inr (.inr (.inr (fun _ => none)))))) :: (q_9, .inl (cI, 3, .inl (zL3 5 10 50))) :: (q_10, .inr (0, [.ref q_13, .ref q_16, .ref q_17, .int 0, .int 0, .int 0, .int 60, .int 0, .int 1])) :: (q_13, .inr (6, [.ref q_14, .ref q_15, .int 20, .int 0, .int 3])) :: (q_14, .inl (cZ, 40, .inl (fun _ => 0))) :: (q_15, .inl (cI, 40, .inl (fun _ => 0))) :: (q_16, .inl (cP, 8, .inr (.inr (.inr (.inr (fun _ => none)))))) :: (q_17, .inl (cI, 3, .inl (zL3 5 10 50))) :: (q_18, .inr (5, [.ref q_21, .ref q_22, .ref q_23, .ref q_24, .int 0, .int 0, .int 0])) :: (q_21, .inl (cI, 125, .inl (fun _ => 0))) :: (q_22, .inl (cI, 125, .inl (fun _ => 0))) :: (q_23, .inl (cI, 3, .inl (fun _ => 0))) :: (q_24, .inl (cP, 8, .inr (.inr (.inr (.inr (fun _ => none)))))) :: (q_25, .inr (3, [.ref q_28, .ref q_29, .int 0, .int 0, .int 0, .int (-1), .int 0, .int 0])) :: (q_28, .inl (cI, 132, .inl (fun _ => 0))) :: (q_29, .inl (cI, 160, .inl (fun _ => 0))) :: (q_30, .inr (1, [.ref q_33, .int 0, .int 0, .int 0, .int 0])) :: (q_33, .inl (cI, 20, .inl (fun _ => 0))) :: (q_34, .inl (cI, 8, .inl (fun _ => 0))) :: (q_36, .inr (4, [.ref q_39, .int (-1), .int 0])) :: (q_39, .inl (cJ, 160, .inr (.inl (fun _ => 0)))) :: (q_41, .inr (4, [.ref q_44, .int (-1), .int 0])) :: (q_44, .inl (cJ, 160, .inr (.inl (fun _ => 0)))) :: (q_46, .inr (4, [.ref q_49, .int (-1), .int 0])) :: (q_49, .inl (cJ, 160, .inr (.inl (fun _ => 0)))) :: [])) hP hD rfl
        clear hP hD
        obtain ⟨hP, hD⟩ := h9R
        refine W.widen (k := 30) (n := 1308) (Nat.le_of_ble_eq_true rfl) (Nat.le_of_ble_eq_true rfl) ?_
        refine va_astq hx hb hK hP hD hS 1 4 29 4 rfl rfl rfl rfl (zf_in (by decide) (by decide)) dX7_init_106 (fun H locs hP hD hS => ?_)
        have h9R := zRe (ws' := ((x0, .inr (7, [.ref q_1, .ref q_2, .ref q_10, .ref q_18, .ref q_25, .ref q_30, .ref q_34, .int 0, .int (-1)])) :: (q_1, .inl (cS, 8, .inr (.inr (.inr (.inr (va_up (va_up (va_up (fun _ => none) (0 : Int32).toNatClampNeg (some q_36)) (1 : Int32).toNatClampNeg (some q_41)) (2 : Int32).toNatClampNeg (some q_46))))))) :: (q_2, .inr (0, [.ref q_5, .ref q_8, .ref q_9, .int 0, .int 0, .int 0, .int 60, .int 0, .int 1])) :: (q_5, .inr (6, [.ref q_6, .ref q_7, .int 20, .int 0, .int 3])) :: (q_6, .inl (cZ, 40, .inl (fun _ => 0))) :: (q_7, .inl (cI, 40, .inl (fun _ => 0))) :: (q_8, .inl (cP, 8, .inr (.inr (.inr (.inr (fun _ => none)))))) :: (q_9, .inl (cI, 3, .inl (zL3 5 10 50))) :: (q_10, .inr (0, [.ref q_13, .ref q_16, .ref q_17, .int 0, .int 0, .int 0, .int 60, .int 0, .int 1])) :: (q_13, .inr (6, [.ref q_14, .ref q_15, .int 20, .int 0, .int 3])) :: (q_14, .inl (cZ, 40, .inl (fun _ => 0))) :: (q_15, .inl (cI, 40, .inl (fun _ => 0))) :: (q_16, .inl (cP, 8, .inr (.inr (.inr (.inr (fun _ => none)))))) :: (q_17, .inl (cI, 3, .inl (zL3 5 10 50))) :: (q_18, .inr (5, [.ref q_21, .ref q_22, .ref q_23, .ref q_24, .int 0, .int 0, .int 0])) :: (q_21, .inl (cI, 125, .inl (fun _ => 0))) :: (q_22, .inl (cI, 125, .inl (fun _ => 0))) :: (q_23, .inl (cI, 3, .inl (fun _ => 0))) :: (q_24, .inl (cP, 8, .inr (.inr (.inr (.inr (fun _ => none)))))) :: (q_25, .inr (3, [.ref q_28, .ref q_29, .int 0, .int 0, .int 0, .int (-1), .int 0, .int 0])) :: (q_28, .inl (cI, 132, .inl (fun _ => 0))) :: (q_29, .inl (cI, 160, .inl (fun _ => 0))) :: (q_30, .inr (1, [.ref q_33, .int 0, .int 0, .int 0, .int 0])) :: (q_33, .inl (cI, 20, .inl (fun _ => 0))) :: (q_34, .inl (cI, 8, .inl (fun _ => 0))) :: (q_36, .inr (4, [.ref q_39, .int (-1), .int 0])) :: (q_39, .inl (cJ, 160, .inr (.inl (fun _ => 0)))) :: (q_41, .inr (4, [.ref q_44, .int (-1), .int 0])) :: (q_44, .inl (cJ, 160, .inr (.inl (fun _ => 0)))) :: (q_46, .inr (4, [.ref q_49, .int (-1), .int 0])) :: (q_49, .inl (cJ, 160, .inr (.inl (fun _ => 0)))) :: [])) hP hD rfl
        clear hP hD
        obtain ⟨hP, hD⟩ := h9R
        refine lv_iinc (v := 3) (lv' := [(1, .int 3), (0, .ref x0)]) hx hb dX7_init_107 hl (k := 0) rfl (by decide) (by decide) rfl (fun ls hl => ?_)
        refine lv_goto (tgt := 88) hx hb dX7_init_110 (by decide) ?_
        refine lv_iload_n hx hb dX7_init_88 rfl (lv_at hl 0 rfl) ?_
        refine lv_bipush (v := 8) hx hb dX7_init_89 (by decide) ?_
        refine lv_icmp_ge (tgt := 113) hx hb dX7_init_91 (by decide) (fun c_50 => ?_) (fun c_50 => ?_)
        · exact absurd c_50 (by decide)
        · refine lv_aload_n hx hb dX7_init_94 rfl (lv_at hl 1 rfl) ?_
          refine va_get (D := D) (ci := 7) (v := .ref q_1) (C := RX7) (T := TX7) (N := 9) hx hb hts hi_X7_init_7 hown hK hP 0 rfl rfl 0 (by decide) (hts (.fieldLink RX7 11 "TheLiningsInIt" "shelves" "[LTheLiningsInIt$Shelf;") (List.mem_of_getElem? (i := 5) rfl)) (fun _ h9 => h9) rfl dX7_init_95 ?_
          refine lv_iload_n hx hb dX7_init_98 rfl (lv_at hl 0 rfl) ?_
          refine va_new (ci := 4) (fs := [.null, .int 0, .int 0]) (C := RX4) (T := TX4) (N := 3) hx hb hts hi_X7_init_4 tyX4 tyX4_ok hown (hts (.classLink RX7 9 RX4) (List.mem_of_getElem? (i := 4) rfl)) (hts _ (List.mem_of_getElem? (i := 27) rfl)) (hts _ (List.mem_of_getElem? (i := 28) rfl)) hK hP hD hS hA rfl (fun j hj => by rcases (show j = 0 ∨ j = 1 ∨ j = 2 by omega) with rfl | rfl | rfl <;> rfl) (Nat.le_of_ble_eq_true rfl) (Nat.le_of_ble_eq_true rfl) dX7_init_99 (fun q_51 H hP hD hS => ?_)
          have h9R := zRe (ws' := ((x0, .inr (7, [.ref q_1, .ref q_2, .ref q_10, .ref q_18, .ref q_25, .ref q_30, .ref q_34, .int 0, .int (-1)])) :: (q_1, .inl (cS, 8, .inr (.inr (.inr (.inr (va_up (va_up (va_up (fun _ => none) (0 : Int32).toNatClampNeg (some q_36)) (1 : Int32).toNatClampNeg (some q_41)) (2 : Int32).toNatClampNeg (some q_46))))))) :: (q_2, .inr (0, [.ref q_5, .ref q_8, .ref q_9, .int 0, .int 0, .int 0, .int 60, .int 0, .int 1])) :: (q_5, .inr (6, [.ref q_6, .ref q_7, .int 20, .int 0, .int 3])) :: (q_6, .inl (cZ, 40, .inl (fun _ => 0))) :: (q_7, .inl (cI, 40, .inl (fun _ => 0))) :: (q_8, .inl (cP, 8, .inr (.inr (.inr (.inr (fun _ => none)))))) :: (q_9, .inl (cI, 3, .inl (zL3 5 10 50))) :: (q_10, .inr (0, [.ref q_13, .ref q_16, .ref q_17, .int 0, .int 0, .int 0, .int 60, .int 0, .int 1])) :: (q_13, .inr (6, [.ref q_14, .ref q_15, .int 20, .int 0, .int 3])) :: (q_14, .inl (cZ, 40, .inl (fun _ => 0))) :: (q_15, .inl (cI, 40, .inl (fun _ => 0))) :: (q_16, .inl (cP, 8, .inr (.inr (.inr (.inr (fun _ => none)))))) :: (q_17, .inl (cI, 3, .inl (zL3 5 10 50))) :: (q_18, .inr (5, [.ref q_21, .ref q_22, .ref q_23, .ref q_24, .int 0, .int 0, .int 0])) :: (q_21, .inl (cI, 125, .inl (fun _ => 0))) :: (q_22, .inl (cI, 125, .inl (fun _ => 0))) :: (q_23, .inl (cI, 3, .inl (fun _ => 0))) :: (q_24, .inl (cP, 8, .inr (.inr (.inr (.inr (fun _ => none)))))) :: (q_25, .inr (3, [.ref q_28, .ref q_29, .int 0, .int 0, .int 0, .int (-1), .int 0, .int 0])) :: (q_28, .inl (cI, 132, .inl (fun _ => 0))) :: (q_29, .inl (cI, 160, .inl (fun _ => 0))) :: (q_30, .inr (1, [.ref q_33, .int 0, .int 0, .int 0, .int 0])) :: (q_33, .inl (cI, 20, .inl (fun _ => 0))) :: (q_34, .inl (cI, 8, .inl (fun _ => 0))) :: (q_36, .inr (4, [.ref q_39, .int (-1), .int 0])) :: (q_39, .inl (cJ, 160, .inr (.inl (fun _ => 0)))) :: (q_41, .inr (4, [.ref q_44, .int (-1), .int 0])) :: (q_44, .inl (cJ, 160, .inr (.inl (fun _ => 0)))) :: (q_46, .inr (4, [.ref q_49, .int (-1), .int 0])) :: (q_49, .inl (cJ, 160, .inr (.inl (fun _ => 0)))) :: (q_51, .inr (4, [.null, .int 0, .int 0])) :: [])) hP hD rfl
          clear hP hD
          obtain ⟨hP, hD⟩ := h9R
          refine W.widen (k := 31) (n := 1311) (Nat.le_of_ble_eq_true rfl) (Nat.le_of_ble_eq_true rfl) ?_
          refine lv_dup hx hb dX7_init_102 rfl ?_
          skip
          refine zw_IN (As := []) (rest := [.ref q_51, .int 3, .ref q_1]) (wr := ((x0, .inr (7, [.ref q_1, .ref q_2, .ref q_10, .ref q_18, .ref q_25, .ref q_30, .ref q_34, .int 0, .int (-1)])) :: (q_1, .inl (cS, 8, .inr (.inr (.inr (.inr (va_up (va_up (va_up (fun _ => none) (0 : Int32).toNatClampNeg (some q_36)) (1 : Int32).toNatClampNeg (some q_41)) (2 : Int32).toNatClampNeg (some q_46))))))) :: (q_2, .inr (0, [.ref q_5, .ref q_8, .ref q_9, .int 0, .int 0, .int 0, .int 60, .int 0, .int 1])) :: (q_5, .inr (6, [.ref q_6, .ref q_7, .int 20, .int 0, .int 3])) :: (q_6, .inl (cZ, 40, .inl (fun _ => 0))) :: (q_7, .inl (cI, 40, .inl (fun _ => 0))) :: (q_8, .inl (cP, 8, .inr (.inr (.inr (.inr (fun _ => none)))))) :: (q_9, .inl (cI, 3, .inl (zL3 5 10 50))) :: (q_10, .inr (0, [.ref q_13, .ref q_16, .ref q_17, .int 0, .int 0, .int 0, .int 60, .int 0, .int 1])) :: (q_13, .inr (6, [.ref q_14, .ref q_15, .int 20, .int 0, .int 3])) :: (q_14, .inl (cZ, 40, .inl (fun _ => 0))) :: (q_15, .inl (cI, 40, .inl (fun _ => 0))) :: (q_16, .inl (cP, 8, .inr (.inr (.inr (.inr (fun _ => none)))))) :: (q_17, .inl (cI, 3, .inl (zL3 5 10 50))) :: (q_18, .inr (5, [.ref q_21, .ref q_22, .ref q_23, .ref q_24, .int 0, .int 0, .int 0])) :: (q_21, .inl (cI, 125, .inl (fun _ => 0))) :: (q_22, .inl (cI, 125, .inl (fun _ => 0))) :: (q_23, .inl (cI, 3, .inl (fun _ => 0))) :: (q_24, .inl (cP, 8, .inr (.inr (.inr (.inr (fun _ => none)))))) :: (q_25, .inr (3, [.ref q_28, .ref q_29, .int 0, .int 0, .int 0, .int (-1), .int 0, .int 0])) :: (q_28, .inl (cI, 132, .inl (fun _ => 0))) :: (q_29, .inl (cI, 160, .inl (fun _ => 0))) :: (q_30, .inr (1, [.ref q_33, .int 0, .int 0, .int 0, .int 0])) :: (q_33, .inl (cI, 20, .inl (fun _ => 0))) :: (q_34, .inl (cI, 8, .inl (fun _ => 0))) :: (q_36, .inr (4, [.ref q_39, .int (-1), .int 0])) :: (q_39, .inl (cJ, 160, .inr (.inl (fun _ => 0)))) :: (q_41, .inr (4, [.ref q_44, .int (-1), .int 0])) :: (q_44, .inl (cJ, 160, .inr (.inl (fun _ => 0)))) :: (q_46, .inr (4, [.ref q_49, .int (-1), .int 0])) :: (q_49, .inl (cJ, 160, .inr (.inl (fun _ => 0)))) :: [])) ⟨hx, hb, hml, hown, hts⟩ (c_Shelf_init l D cI cJ cZ cP cS po q_51  H.size) ⟨(va_cnB 0 hts gX7_init_X4_init_n58 rfl rfl rfl (hN.1 (RX7, 58, yX4_init) (List.mem_of_getElem? (i := 5) rfl)) (hts _ (List.mem_of_getElem? (i := 28) rfl)) dh_X4_init ⟨Nat.le_of_ble_eq_true rfl, Nat.le_of_ble_eq_true rfl⟩), rfl, (hts _ (List.mem_of_getElem? (i := 84) rfl))⟩ hK hN (hZ.kept hS) hP hD hS hA [31] [0, 1, 2, 3, 4, 5, 6, 7, 8, 9, 10, 11, 12, 13, 14, 15, 16, 17, 18, 19, 20, 21, 22, 23, 24, 25, 26, 27, 28, 29, 30] rfl rfl (by decide) (by decide) (by decide) rfl hl.1 rfl (Nat.le_of_ble_eq_true rfl) dX7_init_103 ⟨Nat.le_of_ble_eq_true rfl, Nat.le_of_ble_eq_true rfl⟩ (fun u_53 H locs hr_52 hP hD hS => ?_)
          obtain ⟨q_54, rfl⟩ : ∃ z, z = u_53 := ⟨_, rfl⟩
          have h9R := zRe (ws' := ((x0, .inr (7, [.ref q_1, .ref q_2, .ref q_10, .ref q_18, .ref q_25, .ref q_30, .ref q_34, .int 0, .int (-1)])) :: (q_1, .inl (cS, 8, .inr (.inr (.inr (.inr (va_up (va_up (va_up (fun _ => none) (0 : Int32).toNatClampNeg (some q_36)) (1 : Int32).toNatClampNeg (some q_41)) (2 : Int32).toNatClampNeg (some q_46))))))) :: (q_2, .inr (0, [.ref q_5, .ref q_8, .ref q_9, .int 0, .int 0, .int 0, .int 60, .int 0, .int 1])) :: (q_5, .inr (6, [.ref q_6, .ref q_7, .int 20, .int 0, .int 3])) :: (q_6, .inl (cZ, 40, .inl (fun _ => 0))) :: (q_7, .inl (cI, 40, .inl (fun _ => 0))) :: (q_8, .inl (cP, 8, .inr (.inr (.inr (.inr (fun _ => none)))))) :: (q_9, .inl (cI, 3, .inl (zL3 5 10 50))) :: (q_10, .inr (0, [.ref q_13, .ref q_16, .ref q_17, .int 0, .int 0, .int 0, .int 60, .int 0, .int 1])) :: (q_13, .inr (6, [.ref q_14, .ref q_15, .int 20, .int 0, .int 3])) :: (q_14, .inl (cZ, 40, .inl (fun _ => 0))) :: (q_15, .inl (cI, 40, .inl (fun _ => 0))) :: (q_16, .inl (cP, 8, .inr (.inr (.inr (.inr (fun _ => none)))))) :: (q_17, .inl (cI, 3, .inl (zL3 5 10 50))) :: (q_18, .inr (5, [.ref q_21, .ref q_22, .ref q_23, .ref q_24, .int 0, .int 0, .int 0])) :: (q_21, .inl (cI, 125, .inl (fun _ => 0))) :: (q_22, .inl (cI, 125, .inl (fun _ => 0))) :: (q_23, .inl (cI, 3, .inl (fun _ => 0))) :: (q_24, .inl (cP, 8, .inr (.inr (.inr (.inr (fun _ => none)))))) :: (q_25, .inr (3, [.ref q_28, .ref q_29, .int 0, .int 0, .int 0, .int (-1), .int 0, .int 0])) :: (q_28, .inl (cI, 132, .inl (fun _ => 0))) :: (q_29, .inl (cI, 160, .inl (fun _ => 0))) :: (q_30, .inr (1, [.ref q_33, .int 0, .int 0, .int 0, .int 0])) :: (q_33, .inl (cI, 20, .inl (fun _ => 0))) :: (q_34, .inl (cI, 8, .inl (fun _ => 0))) :: (q_36, .inr (4, [.ref q_39, .int (-1), .int 0])) :: (q_39, .inl (cJ, 160, .inr (.inl (fun _ => 0)))) :: (q_41, .inr (4, [.ref q_44, .int (-1), .int 0])) :: (q_44, .inl (cJ, 160, .inr (.inl (fun _ => 0)))) :: (q_46, .inr (4, [.ref q_49, .int (-1), .int 0])) :: (q_49, .inl (cJ, 160, .inr (.inl (fun _ => 0)))) :: (q_51, .inr (4, [.ref q_54, .int (-1), .int 0])) :: (q_54, .inl (cJ, 160, .inr (.inl (fun _ => 0)))) :: [])) hP hD rfl
          clear hP hD
          obtain ⟨hP, hD⟩ := h9R
          refine W.widen (k := 32) (n := 1471) (Nat.le_of_ble_eq_true rfl) (Nat.le_of_ble_eq_true rfl) ?_
          refine va_astq hx hb hK hP hD hS 1 4 31 4 rfl rfl rfl rfl (zf_in (by decide) (by decide)) dX7_init_106 (fun H locs hP hD hS => ?_)
          have h9R := zRe (ws' := ((x0, .inr (7, [.ref q_1, .ref q_2, .ref q_10, .ref q_18, .ref q_25, .ref q_30, .ref q_34, .int 0, .int (-1)])) :: (q_1, .inl (cS, 8, .inr (.inr (.inr (.inr (va_up (va_up (va_up (va_up (fun _ => none) (0 : Int32).toNatClampNeg (some q_36)) (1 : Int32).toNatClampNeg (some q_41)) (2 : Int32).toNatClampNeg (some q_46)) (3 : Int32).toNatClampNeg (some q_51))))))) :: (q_2, .inr (0, [.ref q_5, .ref q_8, .ref q_9, .int 0, .int 0, .int 0, .int 60, .int 0, .int 1])) :: (q_5, .inr (6, [.ref q_6, .ref q_7, .int 20, .int 0, .int 3])) :: (q_6, .inl (cZ, 40, .inl (fun _ => 0))) :: (q_7, .inl (cI, 40, .inl (fun _ => 0))) :: (q_8, .inl (cP, 8, .inr (.inr (.inr (.inr (fun _ => none)))))) :: (q_9, .inl (cI, 3, .inl (zL3 5 10 50))) :: (q_10, .inr (0, [.ref q_13, .ref q_16, .ref q_17, .int 0, .int 0, .int 0, .int 60, .int 0, .int 1])) :: (q_13, .inr (6, [.ref q_14, .ref q_15, .int 20, .int 0, .int 3])) :: (q_14, .inl (cZ, 40, .inl (fun _ => 0))) :: (q_15, .inl (cI, 40, .inl (fun _ => 0))) :: (q_16, .inl (cP, 8, .inr (.inr (.inr (.inr (fun _ => none)))))) :: (q_17, .inl (cI, 3, .inl (zL3 5 10 50))) :: (q_18, .inr (5, [.ref q_21, .ref q_22, .ref q_23, .ref q_24, .int 0, .int 0, .int 0])) :: (q_21, .inl (cI, 125, .inl (fun _ => 0))) :: (q_22, .inl (cI, 125, .inl (fun _ => 0))) :: (q_23, .inl (cI, 3, .inl (fun _ => 0))) :: (q_24, .inl (cP, 8, .inr (.inr (.inr (.inr (fun _ => none)))))) :: (q_25, .inr (3, [.ref q_28, .ref q_29, .int 0, .int 0, .int 0, .int (-1), .int 0, .int 0])) :: (q_28, .inl (cI, 132, .inl (fun _ => 0))) :: (q_29, .inl (cI, 160, .inl (fun _ => 0))) :: (q_30, .inr (1, [.ref q_33, .int 0, .int 0, .int 0, .int 0])) :: (q_33, .inl (cI, 20, .inl (fun _ => 0))) :: (q_34, .inl (cI, 8, .inl (fun _ => 0))) :: (q_36, .inr (4, [.ref q_39, .int (-1), .int 0])) :: (q_39, .inl (cJ, 160, .inr (.inl (fun _ => 0)))) :: (q_41, .inr (4, [.ref q_44, .int (-1), .int 0])) :: (q_44, .inl (cJ, 160, .inr (.inl (fun _ => 0)))) :: (q_46, .inr (4, [.ref q_49, .int (-1), .int 0])) :: (q_49, .inl (cJ, 160, .inr (.inl (fun _ => 0)))) :: (q_51, .inr (4, [.ref q_54, .int (-1), .int 0])) :: (q_54, .inl (cJ, 160, .inr (.inl (fun _ => 0)))) :: [])) hP hD rfl
          clear hP hD
          obtain ⟨hP, hD⟩ := h9R
          refine lv_iinc (v := 4) (lv' := [(1, .int 4), (0, .ref x0)]) hx hb dX7_init_107 hl (k := 0) rfl (by decide) (by decide) rfl (fun ls hl => ?_)
          refine lv_goto (tgt := 88) hx hb dX7_init_110 (by decide) ?_
          refine lv_iload_n hx hb dX7_init_88 rfl (lv_at hl 0 rfl) ?_
          refine lv_bipush (v := 8) hx hb dX7_init_89 (by decide) ?_
          refine lv_icmp_ge (tgt := 113) hx hb dX7_init_91 (by decide) (fun c_55 => ?_) (fun c_55 => ?_)
          · exact absurd c_55 (by decide)
          · refine lv_aload_n hx hb dX7_init_94 rfl (lv_at hl 1 rfl) ?_
            refine va_get (D := D) (ci := 7) (v := .ref q_1) (C := RX7) (T := TX7) (N := 9) hx hb hts hi_X7_init_7 hown hK hP 0 rfl rfl 0 (by decide) (hts (.fieldLink RX7 11 "TheLiningsInIt" "shelves" "[LTheLiningsInIt$Shelf;") (List.mem_of_getElem? (i := 5) rfl)) (fun _ h9 => h9) rfl dX7_init_95 ?_
            refine lv_iload_n hx hb dX7_init_98 rfl (lv_at hl 0 rfl) ?_
            refine va_new (ci := 4) (fs := [.null, .int 0, .int 0]) (C := RX4) (T := TX4) (N := 3) hx hb hts hi_X7_init_4 tyX4 tyX4_ok hown (hts (.classLink RX7 9 RX4) (List.mem_of_getElem? (i := 4) rfl)) (hts _ (List.mem_of_getElem? (i := 27) rfl)) (hts _ (List.mem_of_getElem? (i := 28) rfl)) hK hP hD hS hA rfl (fun j hj => by rcases (show j = 0 ∨ j = 1 ∨ j = 2 by omega) with rfl | rfl | rfl <;> rfl) (Nat.le_of_ble_eq_true rfl) (Nat.le_of_ble_eq_true rfl) dX7_init_99 (fun q_56 H hP hD hS => ?_)
            have h9R := zRe (ws' := ((x0, .inr (7, [.ref q_1, .ref q_2, .ref q_10, .ref q_18, .ref q_25, .ref q_30, .ref q_34, .int 0, .int (-1)])) :: (q_1, .inl (cS, 8, .inr (.inr (.inr (.inr (va_up (va_up (va_up (va_up (fun _ => none) (0 : Int32).toNatClampNeg (some q_36)) (1 : Int32).toNatClampNeg (some q_41)) (2 : Int32).toNatClampNeg (some q_46)) (3 : Int32).toNatClampNeg (some q_51))))))) :: (q_2, .inr (0, [.ref q_5, .ref q_8, .ref q_9, .int 0, .int 0, .int 0, .int 60, .int 0, .int 1])) :: (q_5, .inr (6, [.ref q_6, .ref q_7, .int 20, .int 0, .int 3])) :: (q_6, .inl (cZ, 40, .inl (fun _ => 0))) :: (q_7, .inl (cI, 40, .inl (fun _ => 0))) :: (q_8, .inl (cP, 8, .inr (.inr (.inr (.inr (fun _ => none)))))) :: (q_9, .inl (cI, 3, .inl (zL3 5 10 50))) :: (q_10, .inr (0, [.ref q_13, .ref q_16, .ref q_17, .int 0, .int 0, .int 0, .int 60, .int 0, .int 1])) :: (q_13, .inr (6, [.ref q_14, .ref q_15, .int 20, .int 0, .int 3])) :: (q_14, .inl (cZ, 40, .inl (fun _ => 0))) :: (q_15, .inl (cI, 40, .inl (fun _ => 0))) :: (q_16, .inl (cP, 8, .inr (.inr (.inr (.inr (fun _ => none)))))) :: (q_17, .inl (cI, 3, .inl (zL3 5 10 50))) :: (q_18, .inr (5, [.ref q_21, .ref q_22, .ref q_23, .ref q_24, .int 0, .int 0, .int 0])) :: (q_21, .inl (cI, 125, .inl (fun _ => 0))) :: (q_22, .inl (cI, 125, .inl (fun _ => 0))) :: (q_23, .inl (cI, 3, .inl (fun _ => 0))) :: (q_24, .inl (cP, 8, .inr (.inr (.inr (.inr (fun _ => none)))))) :: (q_25, .inr (3, [.ref q_28, .ref q_29, .int 0, .int 0, .int 0, .int (-1), .int 0, .int 0])) :: (q_28, .inl (cI, 132, .inl (fun _ => 0))) :: (q_29, .inl (cI, 160, .inl (fun _ => 0))) :: (q_30, .inr (1, [.ref q_33, .int 0, .int 0, .int 0, .int 0])) :: (q_33, .inl (cI, 20, .inl (fun _ => 0))) :: (q_34, .inl (cI, 8, .inl (fun _ => 0))) :: (q_36, .inr (4, [.ref q_39, .int (-1), .int 0])) :: (q_39, .inl (cJ, 160, .inr (.inl (fun _ => 0)))) :: (q_41, .inr (4, [.ref q_44, .int (-1), .int 0])) :: (q_44, .inl (cJ, 160, .inr (.inl (fun _ => 0)))) :: (q_46, .inr (4, [.ref q_49, .int (-1), .int 0])) :: (q_49, .inl (cJ, 160, .inr (.inl (fun _ => 0)))) :: (q_51, .inr (4, [.ref q_54, .int (-1), .int 0])) :: (q_54, .inl (cJ, 160, .inr (.inl (fun _ => 0)))) :: (q_56, .inr (4, [.null, .int 0, .int 0])) :: [])) hP hD rfl
            clear hP hD
            obtain ⟨hP, hD⟩ := h9R
            refine W.widen (k := 33) (n := 1474) (Nat.le_of_ble_eq_true rfl) (Nat.le_of_ble_eq_true rfl) ?_
            refine lv_dup hx hb dX7_init_102 rfl ?_
            skip
            refine zw_IN (As := []) (rest := [.ref q_56, .int 4, .ref q_1]) (wr := ((x0, .inr (7, [.ref q_1, .ref q_2, .ref q_10, .ref q_18, .ref q_25, .ref q_30, .ref q_34, .int 0, .int (-1)])) :: (q_1, .inl (cS, 8, .inr (.inr (.inr (.inr (va_up (va_up (va_up (va_up (fun _ => none) (0 : Int32).toNatClampNeg (some q_36)) (1 : Int32).toNatClampNeg (some q_41)) (2 : Int32).toNatClampNeg (some q_46)) (3 : Int32).toNatClampNeg (some q_51))))))) :: (q_2, .inr (0, [.ref q_5, .ref q_8, .ref q_9, .int 0, .int 0, .int 0, .int 60, .int 0, .int 1])) :: (q_5, .inr (6, [.ref q_6, .ref q_7, .int 20, .int 0, .int 3])) :: (q_6, .inl (cZ, 40, .inl (fun _ => 0))) :: (q_7, .inl (cI, 40, .inl (fun _ => 0))) :: (q_8, .inl (cP, 8, .inr (.inr (.inr (.inr (fun _ => none)))))) :: (q_9, .inl (cI, 3, .inl (zL3 5 10 50))) :: (q_10, .inr (0, [.ref q_13, .ref q_16, .ref q_17, .int 0, .int 0, .int 0, .int 60, .int 0, .int 1])) :: (q_13, .inr (6, [.ref q_14, .ref q_15, .int 20, .int 0, .int 3])) :: (q_14, .inl (cZ, 40, .inl (fun _ => 0))) :: (q_15, .inl (cI, 40, .inl (fun _ => 0))) :: (q_16, .inl (cP, 8, .inr (.inr (.inr (.inr (fun _ => none)))))) :: (q_17, .inl (cI, 3, .inl (zL3 5 10 50))) :: (q_18, .inr (5, [.ref q_21, .ref q_22, .ref q_23, .ref q_24, .int 0, .int 0, .int 0])) :: (q_21, .inl (cI, 125, .inl (fun _ => 0))) :: (q_22, .inl (cI, 125, .inl (fun _ => 0))) :: (q_23, .inl (cI, 3, .inl (fun _ => 0))) :: (q_24, .inl (cP, 8, .inr (.inr (.inr (.inr (fun _ => none)))))) :: (q_25, .inr (3, [.ref q_28, .ref q_29, .int 0, .int 0, .int 0, .int (-1), .int 0, .int 0])) :: (q_28, .inl (cI, 132, .inl (fun _ => 0))) :: (q_29, .inl (cI, 160, .inl (fun _ => 0))) :: (q_30, .inr (1, [.ref q_33, .int 0, .int 0, .int 0, .int 0])) :: (q_33, .inl (cI, 20, .inl (fun _ => 0))) :: (q_34, .inl (cI, 8, .inl (fun _ => 0))) :: (q_36, .inr (4, [.ref q_39, .int (-1), .int 0])) :: (q_39, .inl (cJ, 160, .inr (.inl (fun _ => 0)))) :: (q_41, .inr (4, [.ref q_44, .int (-1), .int 0])) :: (q_44, .inl (cJ, 160, .inr (.inl (fun _ => 0)))) :: (q_46, .inr (4, [.ref q_49, .int (-1), .int 0])) :: (q_49, .inl (cJ, 160, .inr (.inl (fun _ => 0)))) :: (q_51, .inr (4, [.ref q_54, .int (-1), .int 0])) :: (q_54, .inl (cJ, 160, .inr (.inl (fun _ => 0)))) :: [])) ⟨hx, hb, hml, hown, hts⟩ (c_Shelf_init l D cI cJ cZ cP cS po q_56  H.size) ⟨(va_cnB 0 hts gX7_init_X4_init_n58 rfl rfl rfl (hN.1 (RX7, 58, yX4_init) (List.mem_of_getElem? (i := 5) rfl)) (hts _ (List.mem_of_getElem? (i := 28) rfl)) dh_X4_init ⟨Nat.le_of_ble_eq_true rfl, Nat.le_of_ble_eq_true rfl⟩), rfl, (hts _ (List.mem_of_getElem? (i := 84) rfl))⟩ hK hN (hZ.kept hS) hP hD hS hA [33] [0, 1, 2, 3, 4, 5, 6, 7, 8, 9, 10, 11, 12, 13, 14, 15, 16, 17, 18, 19, 20, 21, 22, 23, 24, 25, 26, 27, 28, 29, 30, 31, 32] rfl rfl (by decide) (by decide) (by decide) rfl hl.1 rfl (Nat.le_of_ble_eq_true rfl) dX7_init_103 ⟨Nat.le_of_ble_eq_true rfl, Nat.le_of_ble_eq_true rfl⟩ (fun u_58 H locs hr_57 hP hD hS => ?_)
            obtain ⟨q_59, rfl⟩ : ∃ z, z = u_58 := ⟨_, rfl⟩
            have h9R := zRe (ws' := ((x0, .inr (7, [.ref q_1, .ref q_2, .ref q_10, .ref q_18, .ref q_25, .ref q_30, .ref q_34, .int 0, .int (-1)])) :: (q_1, .inl (cS, 8, .inr (.inr (.inr (.inr (va_up (va_up (va_up (va_up (fun _ => none) (0 : Int32).toNatClampNeg (some q_36)) (1 : Int32).toNatClampNeg (some q_41)) (2 : Int32).toNatClampNeg (some q_46)) (3 : Int32).toNatClampNeg (some q_51))))))) :: (q_2, .inr (0, [.ref q_5, .ref q_8, .ref q_9, .int 0, .int 0, .int 0, .int 60, .int 0, .int 1])) :: (q_5, .inr (6, [.ref q_6, .ref q_7, .int 20, .int 0, .int 3])) :: (q_6, .inl (cZ, 40, .inl (fun _ => 0))) :: (q_7, .inl (cI, 40, .inl (fun _ => 0))) :: (q_8, .inl (cP, 8, .inr (.inr (.inr (.inr (fun _ => none)))))) :: (q_9, .inl (cI, 3, .inl (zL3 5 10 50))) :: (q_10, .inr (0, [.ref q_13, .ref q_16, .ref q_17, .int 0, .int 0, .int 0, .int 60, .int 0, .int 1])) :: (q_13, .inr (6, [.ref q_14, .ref q_15, .int 20, .int 0, .int 3])) :: (q_14, .inl (cZ, 40, .inl (fun _ => 0))) :: (q_15, .inl (cI, 40, .inl (fun _ => 0))) :: (q_16, .inl (cP, 8, .inr (.inr (.inr (.inr (fun _ => none)))))) :: (q_17, .inl (cI, 3, .inl (zL3 5 10 50))) :: (q_18, .inr (5, [.ref q_21, .ref q_22, .ref q_23, .ref q_24, .int 0, .int 0, .int 0])) :: (q_21, .inl (cI, 125, .inl (fun _ => 0))) :: (q_22, .inl (cI, 125, .inl (fun _ => 0))) :: (q_23, .inl (cI, 3, .inl (fun _ => 0))) :: (q_24, .inl (cP, 8, .inr (.inr (.inr (.inr (fun _ => none)))))) :: (q_25, .inr (3, [.ref q_28, .ref q_29, .int 0, .int 0, .int 0, .int (-1), .int 0, .int 0])) :: (q_28, .inl (cI, 132, .inl (fun _ => 0))) :: (q_29, .inl (cI, 160, .inl (fun _ => 0))) :: (q_30, .inr (1, [.ref q_33, .int 0, .int 0, .int 0, .int 0])) :: (q_33, .inl (cI, 20, .inl (fun _ => 0))) :: (q_34, .inl (cI, 8, .inl (fun _ => 0))) :: (q_36, .inr (4, [.ref q_39, .int (-1), .int 0])) :: (q_39, .inl (cJ, 160, .inr (.inl (fun _ => 0)))) :: (q_41, .inr (4, [.ref q_44, .int (-1), .int 0])) :: (q_44, .inl (cJ, 160, .inr (.inl (fun _ => 0)))) :: (q_46, .inr (4, [.ref q_49, .int (-1), .int 0])) :: (q_49, .inl (cJ, 160, .inr (.inl (fun _ => 0)))) :: (q_51, .inr (4, [.ref q_54, .int (-1), .int 0])) :: (q_54, .inl (cJ, 160, .inr (.inl (fun _ => 0)))) :: (q_56, .inr (4, [.ref q_59, .int (-1), .int 0])) :: (q_59, .inl (cJ, 160, .inr (.inl (fun _ => 0)))) :: [])) hP hD rfl
            clear hP hD
            obtain ⟨hP, hD⟩ := h9R
            refine W.widen (k := 34) (n := 1634) (Nat.le_of_ble_eq_true rfl) (Nat.le_of_ble_eq_true rfl) ?_
            refine va_astq hx hb hK hP hD hS 1 4 33 4 rfl rfl rfl rfl (zf_in (by decide) (by decide)) dX7_init_106 (fun H locs hP hD hS => ?_)
            have h9R := zRe (ws' := ((x0, .inr (7, [.ref q_1, .ref q_2, .ref q_10, .ref q_18, .ref q_25, .ref q_30, .ref q_34, .int 0, .int (-1)])) :: (q_1, .inl (cS, 8, .inr (.inr (.inr (.inr (va_up (va_up (va_up (va_up (va_up (fun _ => none) (0 : Int32).toNatClampNeg (some q_36)) (1 : Int32).toNatClampNeg (some q_41)) (2 : Int32).toNatClampNeg (some q_46)) (3 : Int32).toNatClampNeg (some q_51)) (4 : Int32).toNatClampNeg (some q_56))))))) :: (q_2, .inr (0, [.ref q_5, .ref q_8, .ref q_9, .int 0, .int 0, .int 0, .int 60, .int 0, .int 1])) :: (q_5, .inr (6, [.ref q_6, .ref q_7, .int 20, .int 0, .int 3])) :: (q_6, .inl (cZ, 40, .inl (fun _ => 0))) :: (q_7, .inl (cI, 40, .inl (fun _ => 0))) :: (q_8, .inl (cP, 8, .inr (.inr (.inr (.inr (fun _ => none)))))) :: (q_9, .inl (cI, 3, .inl (zL3 5 10 50))) :: (q_10, .inr (0, [.ref q_13, .ref q_16, .ref q_17, .int 0, .int 0, .int 0, .int 60, .int 0, .int 1])) :: (q_13, .inr (6, [.ref q_14, .ref q_15, .int 20, .int 0, .int 3])) :: (q_14, .inl (cZ, 40, .inl (fun _ => 0))) :: (q_15, .inl (cI, 40, .inl (fun _ => 0))) :: (q_16, .inl (cP, 8, .inr (.inr (.inr (.inr (fun _ => none)))))) :: (q_17, .inl (cI, 3, .inl (zL3 5 10 50))) :: (q_18, .inr (5, [.ref q_21, .ref q_22, .ref q_23, .ref q_24, .int 0, .int 0, .int 0])) :: (q_21, .inl (cI, 125, .inl (fun _ => 0))) :: (q_22, .inl (cI, 125, .inl (fun _ => 0))) :: (q_23, .inl (cI, 3, .inl (fun _ => 0))) :: (q_24, .inl (cP, 8, .inr (.inr (.inr (.inr (fun _ => none)))))) :: (q_25, .inr (3, [.ref q_28, .ref q_29, .int 0, .int 0, .int 0, .int (-1), .int 0, .int 0])) :: (q_28, .inl (cI, 132, .inl (fun _ => 0))) :: (q_29, .inl (cI, 160, .inl (fun _ => 0))) :: (q_30, .inr (1, [.ref q_33, .int 0, .int 0, .int 0, .int 0])) :: (q_33, .inl (cI, 20, .inl (fun _ => 0))) :: (q_34, .inl (cI, 8, .inl (fun _ => 0))) :: (q_36, .inr (4, [.ref q_39, .int (-1), .int 0])) :: (q_39, .inl (cJ, 160, .inr (.inl (fun _ => 0)))) :: (q_41, .inr (4, [.ref q_44, .int (-1), .int 0])) :: (q_44, .inl (cJ, 160, .inr (.inl (fun _ => 0)))) :: (q_46, .inr (4, [.ref q_49, .int (-1), .int 0])) :: (q_49, .inl (cJ, 160, .inr (.inl (fun _ => 0)))) :: (q_51, .inr (4, [.ref q_54, .int (-1), .int 0])) :: (q_54, .inl (cJ, 160, .inr (.inl (fun _ => 0)))) :: (q_56, .inr (4, [.ref q_59, .int (-1), .int 0])) :: (q_59, .inl (cJ, 160, .inr (.inl (fun _ => 0)))) :: [])) hP hD rfl
            clear hP hD
            obtain ⟨hP, hD⟩ := h9R
            refine lv_iinc (v := 5) (lv' := [(1, .int 5), (0, .ref x0)]) hx hb dX7_init_107 hl (k := 0) rfl (by decide) (by decide) rfl (fun ls hl => ?_)
            refine lv_goto (tgt := 88) hx hb dX7_init_110 (by decide) ?_
            refine lv_iload_n hx hb dX7_init_88 rfl (lv_at hl 0 rfl) ?_
            refine lv_bipush (v := 8) hx hb dX7_init_89 (by decide) ?_
            refine lv_icmp_ge (tgt := 113) hx hb dX7_init_91 (by decide) (fun c_60 => ?_) (fun c_60 => ?_)
            · exact absurd c_60 (by decide)
            · refine lv_aload_n hx hb dX7_init_94 rfl (lv_at hl 1 rfl) ?_
              refine va_get (D := D) (ci := 7) (v := .ref q_1) (C := RX7) (T := TX7) (N := 9) hx hb hts hi_X7_init_7 hown hK hP 0 rfl rfl 0 (by decide) (hts (.fieldLink RX7 11 "TheLiningsInIt" "shelves" "[LTheLiningsInIt$Shelf;") (List.mem_of_getElem? (i := 5) rfl)) (fun _ h9 => h9) rfl dX7_init_95 ?_
              refine lv_iload_n hx hb dX7_init_98 rfl (lv_at hl 0 rfl) ?_
              refine va_new (ci := 4) (fs := [.null, .int 0, .int 0]) (C := RX4) (T := TX4) (N := 3) hx hb hts hi_X7_init_4 tyX4 tyX4_ok hown (hts (.classLink RX7 9 RX4) (List.mem_of_getElem? (i := 4) rfl)) (hts _ (List.mem_of_getElem? (i := 27) rfl)) (hts _ (List.mem_of_getElem? (i := 28) rfl)) hK hP hD hS hA rfl (fun j hj => by rcases (show j = 0 ∨ j = 1 ∨ j = 2 by omega) with rfl | rfl | rfl <;> rfl) (Nat.le_of_ble_eq_true rfl) (Nat.le_of_ble_eq_true rfl) dX7_init_99 (fun q_61 H hP hD hS => ?_)
              have h9R := zRe (ws' := ((x0, .inr (7, [.ref q_1, .ref q_2, .ref q_10, .ref q_18, .ref q_25, .ref q_30, .ref q_34, .int 0, .int (-1)])) :: (q_1, .inl (cS, 8, .inr (.inr (.inr (.inr (va_up (va_up (va_up (va_up (va_up (fun _ => none) (0 : Int32).toNatClampNeg (some q_36)) (1 : Int32).toNatClampNeg (some q_41)) (2 : Int32).toNatClampNeg (some q_46)) (3 : Int32).toNatClampNeg (some q_51)) (4 : Int32).toNatClampNeg (some q_56))))))) :: (q_2, .inr (0, [.ref q_5, .ref q_8, .ref q_9, .int 0, .int 0, .int 0, .int 60, .int 0, .int 1])) :: (q_5, .inr (6, [.ref q_6, .ref q_7, .int 20, .int 0, .int 3])) :: (q_6, .inl (cZ, 40, .inl (fun _ => 0))) :: (q_7, .inl (cI, 40, .inl (fun _ => 0))) :: (q_8, .inl (cP, 8, .inr (.inr (.inr (.inr (fun _ => none)))))) :: (q_9, .inl (cI, 3, .inl (zL3 5 10 50))) :: (q_10, .inr (0, [.ref q_13, .ref q_16, .ref q_17, .int 0, .int 0, .int 0, .int 60, .int 0, .int 1])) :: (q_13, .inr (6, [.ref q_14, .ref q_15, .int 20, .int 0, .int 3])) :: (q_14, .inl (cZ, 40, .inl (fun _ => 0))) :: (q_15, .inl (cI, 40, .inl (fun _ => 0))) :: (q_16, .inl (cP, 8, .inr (.inr (.inr (.inr (fun _ => none)))))) :: (q_17, .inl (cI, 3, .inl (zL3 5 10 50))) :: (q_18, .inr (5, [.ref q_21, .ref q_22, .ref q_23, .ref q_24, .int 0, .int 0, .int 0])) :: (q_21, .inl (cI, 125, .inl (fun _ => 0))) :: (q_22, .inl (cI, 125, .inl (fun _ => 0))) :: (q_23, .inl (cI, 3, .inl (fun _ => 0))) :: (q_24, .inl (cP, 8, .inr (.inr (.inr (.inr (fun _ => none)))))) :: (q_25, .inr (3, [.ref q_28, .ref q_29, .int 0, .int 0, .int 0, .int (-1), .int 0, .int 0])) :: (q_28, .inl (cI, 132, .inl (fun _ => 0))) :: (q_29, .inl (cI, 160, .inl (fun _ => 0))) :: (q_30, .inr (1, [.ref q_33, .int 0, .int 0, .int 0, .int 0])) :: (q_33, .inl (cI, 20, .inl (fun _ => 0))) :: (q_34, .inl (cI, 8, .inl (fun _ => 0))) :: (q_36, .inr (4, [.ref q_39, .int (-1), .int 0])) :: (q_39, .inl (cJ, 160, .inr (.inl (fun _ => 0)))) :: (q_41, .inr (4, [.ref q_44, .int (-1), .int 0])) :: (q_44, .inl (cJ, 160, .inr (.inl (fun _ => 0)))) :: (q_46, .inr (4, [.ref q_49, .int (-1), .int 0])) :: (q_49, .inl (cJ, 160, .inr (.inl (fun _ => 0)))) :: (q_51, .inr (4, [.ref q_54, .int (-1), .int 0])) :: (q_54, .inl (cJ, 160, .inr (.inl (fun _ => 0)))) :: (q_56, .inr (4, [.ref q_59, .int (-1), .int 0])) :: (q_59, .inl (cJ, 160, .inr (.inl (fun _ => 0)))) :: (q_61, .inr (4, [.null, .int 0, .int 0])) :: [])) hP hD rfl
              clear hP hD
              obtain ⟨hP, hD⟩ := h9R
              refine W.widen (k := 35) (n := 1637) (Nat.le_of_ble_eq_true rfl) (Nat.le_of_ble_eq_true rfl) ?_
              refine lv_dup hx hb dX7_init_102 rfl ?_
              skip
              refine zw_IN (As := []) (rest := [.ref q_61, .int 5, .ref q_1]) (wr := ((x0, .inr (7, [.ref q_1, .ref q_2, .ref q_10, .ref q_18, .ref q_25, .ref q_30, .ref q_34, .int 0, .int (-1)])) :: (q_1, .inl (cS, 8, .inr (.inr (.inr (.inr (va_up (va_up (va_up (va_up (va_up (fun _ => none) (0 : Int32).toNatClampNeg (some q_36)) (1 : Int32).toNatClampNeg (some q_41)) (2 : Int32).toNatClampNeg (some q_46)) (3 : Int32).toNatClampNeg (some q_51)) (4 : Int32).toNatClampNeg (some q_56))))))) :: (q_2, .inr (0, [.ref q_5, .ref q_8, .ref q_9, .int 0, .int 0, .int 0, .int 60, .int 0, .int 1])) :: (q_5, .inr (6, [.ref q_6, .ref q_7, .int 20, .int 0, .int 3])) :: (q_6, .inl (cZ, 40, .inl (fun _ => 0))) :: (q_7, .inl (cI, 40, .inl (fun _ => 0))) :: (q_8, .inl (cP, 8, .inr (.inr (.inr (.inr (fun _ => none)))))) :: (q_9, .inl (cI, 3, .inl (zL3 5 10 50))) :: (q_10, .inr (0, [.ref q_13, .ref q_16, .ref q_17, .int 0, .int 0, .int 0, .int 60, .int 0, .int 1])) :: (q_13, .inr (6, [.ref q_14, .ref q_15, .int 20, .int 0, .int 3])) :: (q_14, .inl (cZ, 40, .inl (fun _ => 0))) :: (q_15, .inl (cI, 40, .inl (fun _ => 0))) :: (q_16, .inl (cP, 8, .inr (.inr (.inr (.inr (fun _ => none)))))) :: (q_17, .inl (cI, 3, .inl (zL3 5 10 50))) :: (q_18, .inr (5, [.ref q_21, .ref q_22, .ref q_23, .ref q_24, .int 0, .int 0, .int 0])) :: (q_21, .inl (cI, 125, .inl (fun _ => 0))) :: (q_22, .inl (cI, 125, .inl (fun _ => 0))) :: (q_23, .inl (cI, 3, .inl (fun _ => 0))) :: (q_24, .inl (cP, 8, .inr (.inr (.inr (.inr (fun _ => none)))))) :: (q_25, .inr (3, [.ref q_28, .ref q_29, .int 0, .int 0, .int 0, .int (-1), .int 0, .int 0])) :: (q_28, .inl (cI, 132, .inl (fun _ => 0))) :: (q_29, .inl (cI, 160, .inl (fun _ => 0))) :: (q_30, .inr (1, [.ref q_33, .int 0, .int 0, .int 0, .int 0])) :: (q_33, .inl (cI, 20, .inl (fun _ => 0))) :: (q_34, .inl (cI, 8, .inl (fun _ => 0))) :: (q_36, .inr (4, [.ref q_39, .int (-1), .int 0])) :: (q_39, .inl (cJ, 160, .inr (.inl (fun _ => 0)))) :: (q_41, .inr (4, [.ref q_44, .int (-1), .int 0])) :: (q_44, .inl (cJ, 160, .inr (.inl (fun _ => 0)))) :: (q_46, .inr (4, [.ref q_49, .int (-1), .int 0])) :: (q_49, .inl (cJ, 160, .inr (.inl (fun _ => 0)))) :: (q_51, .inr (4, [.ref q_54, .int (-1), .int 0])) :: (q_54, .inl (cJ, 160, .inr (.inl (fun _ => 0)))) :: (q_56, .inr (4, [.ref q_59, .int (-1), .int 0])) :: (q_59, .inl (cJ, 160, .inr (.inl (fun _ => 0)))) :: [])) ⟨hx, hb, hml, hown, hts⟩ (c_Shelf_init l D cI cJ cZ cP cS po q_61  H.size) ⟨(va_cnB 0 hts gX7_init_X4_init_n58 rfl rfl rfl (hN.1 (RX7, 58, yX4_init) (List.mem_of_getElem? (i := 5) rfl)) (hts _ (List.mem_of_getElem? (i := 28) rfl)) dh_X4_init ⟨Nat.le_of_ble_eq_true rfl, Nat.le_of_ble_eq_true rfl⟩), rfl, (hts _ (List.mem_of_getElem? (i := 84) rfl))⟩ hK hN (hZ.kept hS) hP hD hS hA [35] [0, 1, 2, 3, 4, 5, 6, 7, 8, 9, 10, 11, 12, 13, 14, 15, 16, 17, 18, 19, 20, 21, 22, 23, 24, 25, 26, 27, 28, 29, 30, 31, 32, 33, 34] rfl rfl (by decide) (by decide) (by decide) rfl hl.1 rfl (Nat.le_of_ble_eq_true rfl) dX7_init_103 ⟨Nat.le_of_ble_eq_true rfl, Nat.le_of_ble_eq_true rfl⟩ (fun u_63 H locs hr_62 hP hD hS => ?_)
              obtain ⟨q_64, rfl⟩ : ∃ z, z = u_63 := ⟨_, rfl⟩
              have h9R := zRe (ws' := ((x0, .inr (7, [.ref q_1, .ref q_2, .ref q_10, .ref q_18, .ref q_25, .ref q_30, .ref q_34, .int 0, .int (-1)])) :: (q_1, .inl (cS, 8, .inr (.inr (.inr (.inr (va_up (va_up (va_up (va_up (va_up (fun _ => none) (0 : Int32).toNatClampNeg (some q_36)) (1 : Int32).toNatClampNeg (some q_41)) (2 : Int32).toNatClampNeg (some q_46)) (3 : Int32).toNatClampNeg (some q_51)) (4 : Int32).toNatClampNeg (some q_56))))))) :: (q_2, .inr (0, [.ref q_5, .ref q_8, .ref q_9, .int 0, .int 0, .int 0, .int 60, .int 0, .int 1])) :: (q_5, .inr (6, [.ref q_6, .ref q_7, .int 20, .int 0, .int 3])) :: (q_6, .inl (cZ, 40, .inl (fun _ => 0))) :: (q_7, .inl (cI, 40, .inl (fun _ => 0))) :: (q_8, .inl (cP, 8, .inr (.inr (.inr (.inr (fun _ => none)))))) :: (q_9, .inl (cI, 3, .inl (zL3 5 10 50))) :: (q_10, .inr (0, [.ref q_13, .ref q_16, .ref q_17, .int 0, .int 0, .int 0, .int 60, .int 0, .int 1])) :: (q_13, .inr (6, [.ref q_14, .ref q_15, .int 20, .int 0, .int 3])) :: (q_14, .inl (cZ, 40, .inl (fun _ => 0))) :: (q_15, .inl (cI, 40, .inl (fun _ => 0))) :: (q_16, .inl (cP, 8, .inr (.inr (.inr (.inr (fun _ => none)))))) :: (q_17, .inl (cI, 3, .inl (zL3 5 10 50))) :: (q_18, .inr (5, [.ref q_21, .ref q_22, .ref q_23, .ref q_24, .int 0, .int 0, .int 0])) :: (q_21, .inl (cI, 125, .inl (fun _ => 0))) :: (q_22, .inl (cI, 125, .inl (fun _ => 0))) :: (q_23, .inl (cI, 3, .inl (fun _ => 0))) :: (q_24, .inl (cP, 8, .inr (.inr (.inr (.inr (fun _ => none)))))) :: (q_25, .inr (3, [.ref q_28, .ref q_29, .int 0, .int 0, .int 0, .int (-1), .int 0, .int 0])) :: (q_28, .inl (cI, 132, .inl (fun _ => 0))) :: (q_29, .inl (cI, 160, .inl (fun _ => 0))) :: (q_30, .inr (1, [.ref q_33, .int 0, .int 0, .int 0, .int 0])) :: (q_33, .inl (cI, 20, .inl (fun _ => 0))) :: (q_34, .inl (cI, 8, .inl (fun _ => 0))) :: (q_36, .inr (4, [.ref q_39, .int (-1), .int 0])) :: (q_39, .inl (cJ, 160, .inr (.inl (fun _ => 0)))) :: (q_41, .inr (4, [.ref q_44, .int (-1), .int 0])) :: (q_44, .inl (cJ, 160, .inr (.inl (fun _ => 0)))) :: (q_46, .inr (4, [.ref q_49, .int (-1), .int 0])) :: (q_49, .inl (cJ, 160, .inr (.inl (fun _ => 0)))) :: (q_51, .inr (4, [.ref q_54, .int (-1), .int 0])) :: (q_54, .inl (cJ, 160, .inr (.inl (fun _ => 0)))) :: (q_56, .inr (4, [.ref q_59, .int (-1), .int 0])) :: (q_59, .inl (cJ, 160, .inr (.inl (fun _ => 0)))) :: (q_61, .inr (4, [.ref q_64, .int (-1), .int 0])) :: (q_64, .inl (cJ, 160, .inr (.inl (fun _ => 0)))) :: [])) hP hD rfl
              clear hP hD
              obtain ⟨hP, hD⟩ := h9R
              refine W.widen (k := 36) (n := 1797) (Nat.le_of_ble_eq_true rfl) (Nat.le_of_ble_eq_true rfl) ?_
              refine va_astq hx hb hK hP hD hS 1 4 35 4 rfl rfl rfl rfl (zf_in (by decide) (by decide)) dX7_init_106 (fun H locs hP hD hS => ?_)
              have h9R := zRe (ws' := ((x0, .inr (7, [.ref q_1, .ref q_2, .ref q_10, .ref q_18, .ref q_25, .ref q_30, .ref q_34, .int 0, .int (-1)])) :: (q_1, .inl (cS, 8, .inr (.inr (.inr (.inr (va_up (va_up (va_up (va_up (va_up (va_up (fun _ => none) (0 : Int32).toNatClampNeg (some q_36)) (1 : Int32).toNatClampNeg (some q_41)) (2 : Int32).toNatClampNeg (some q_46)) (3 : Int32).toNatClampNeg (some q_51)) (4 : Int32).toNatClampNeg (some q_56)) (5 : Int32).toNatClampNeg (some q_61))))))) :: (q_2, .inr (0, [.ref q_5, .ref q_8, .ref q_9, .int 0, .int 0, .int 0, .int 60, .int 0, .int 1])) :: (q_5, .inr (6, [.ref q_6, .ref q_7, .int 20, .int 0, .int 3])) :: (q_6, .inl (cZ, 40, .inl (fun _ => 0))) :: (q_7, .inl (cI, 40, .inl (fun _ => 0))) :: (q_8, .inl (cP, 8, .inr (.inr (.inr (.inr (fun _ => none)))))) :: (q_9, .inl (cI, 3, .inl (zL3 5 10 50))) :: (q_10, .inr (0, [.ref q_13, .ref q_16, .ref q_17, .int 0, .int 0, .int 0, .int 60, .int 0, .int 1])) :: (q_13, .inr (6, [.ref q_14, .ref q_15, .int 20, .int 0, .int 3])) :: (q_14, .inl (cZ, 40, .inl (fun _ => 0))) :: (q_15, .inl (cI, 40, .inl (fun _ => 0))) :: (q_16, .inl (cP, 8, .inr (.inr (.inr (.inr (fun _ => none)))))) :: (q_17, .inl (cI, 3, .inl (zL3 5 10 50))) :: (q_18, .inr (5, [.ref q_21, .ref q_22, .ref q_23, .ref q_24, .int 0, .int 0, .int 0])) :: (q_21, .inl (cI, 125, .inl (fun _ => 0))) :: (q_22, .inl (cI, 125, .inl (fun _ => 0))) :: (q_23, .inl (cI, 3, .inl (fun _ => 0))) :: (q_24, .inl (cP, 8, .inr (.inr (.inr (.inr (fun _ => none)))))) :: (q_25, .inr (3, [.ref q_28, .ref q_29, .int 0, .int 0, .int 0, .int (-1), .int 0, .int 0])) :: (q_28, .inl (cI, 132, .inl (fun _ => 0))) :: (q_29, .inl (cI, 160, .inl (fun _ => 0))) :: (q_30, .inr (1, [.ref q_33, .int 0, .int 0, .int 0, .int 0])) :: (q_33, .inl (cI, 20, .inl (fun _ => 0))) :: (q_34, .inl (cI, 8, .inl (fun _ => 0))) :: (q_36, .inr (4, [.ref q_39, .int (-1), .int 0])) :: (q_39, .inl (cJ, 160, .inr (.inl (fun _ => 0)))) :: (q_41, .inr (4, [.ref q_44, .int (-1), .int 0])) :: (q_44, .inl (cJ, 160, .inr (.inl (fun _ => 0)))) :: (q_46, .inr (4, [.ref q_49, .int (-1), .int 0])) :: (q_49, .inl (cJ, 160, .inr (.inl (fun _ => 0)))) :: (q_51, .inr (4, [.ref q_54, .int (-1), .int 0])) :: (q_54, .inl (cJ, 160, .inr (.inl (fun _ => 0)))) :: (q_56, .inr (4, [.ref q_59, .int (-1), .int 0])) :: (q_59, .inl (cJ, 160, .inr (.inl (fun _ => 0)))) :: (q_61, .inr (4, [.ref q_64, .int (-1), .int 0])) :: (q_64, .inl (cJ, 160, .inr (.inl (fun _ => 0)))) :: [])) hP hD rfl
              clear hP hD
              obtain ⟨hP, hD⟩ := h9R
              refine lv_iinc (v := 6) (lv' := [(1, .int 6), (0, .ref x0)]) hx hb dX7_init_107 hl (k := 0) rfl (by decide) (by decide) rfl (fun ls hl => ?_)
              refine lv_goto (tgt := 88) hx hb dX7_init_110 (by decide) ?_
              refine lv_iload_n hx hb dX7_init_88 rfl (lv_at hl 0 rfl) ?_
              refine lv_bipush (v := 8) hx hb dX7_init_89 (by decide) ?_
              refine lv_icmp_ge (tgt := 113) hx hb dX7_init_91 (by decide) (fun c_65 => ?_) (fun c_65 => ?_)
              · exact absurd c_65 (by decide)
              · refine lv_aload_n hx hb dX7_init_94 rfl (lv_at hl 1 rfl) ?_
                refine va_get (D := D) (ci := 7) (v := .ref q_1) (C := RX7) (T := TX7) (N := 9) hx hb hts hi_X7_init_7 hown hK hP 0 rfl rfl 0 (by decide) (hts (.fieldLink RX7 11 "TheLiningsInIt" "shelves" "[LTheLiningsInIt$Shelf;") (List.mem_of_getElem? (i := 5) rfl)) (fun _ h9 => h9) rfl dX7_init_95 ?_
                refine lv_iload_n hx hb dX7_init_98 rfl (lv_at hl 0 rfl) ?_
                refine va_new (ci := 4) (fs := [.null, .int 0, .int 0]) (C := RX4) (T := TX4) (N := 3) hx hb hts hi_X7_init_4 tyX4 tyX4_ok hown (hts (.classLink RX7 9 RX4) (List.mem_of_getElem? (i := 4) rfl)) (hts _ (List.mem_of_getElem? (i := 27) rfl)) (hts _ (List.mem_of_getElem? (i := 28) rfl)) hK hP hD hS hA rfl (fun j hj => by rcases (show j = 0 ∨ j = 1 ∨ j = 2 by omega) with rfl | rfl | rfl <;> rfl) (Nat.le_of_ble_eq_true rfl) (Nat.le_of_ble_eq_true rfl) dX7_init_99 (fun q_66 H hP hD hS => ?_)
                have h9R := zRe (ws' := ((x0, .inr (7, [.ref q_1, .ref q_2, .ref q_10, .ref q_18, .ref q_25, .ref q_30, .ref q_34, .int 0, .int (-1)])) :: (q_1, .inl (cS, 8, .inr (.inr (.inr (.inr (va_up (va_up (va_up (va_up (va_up (va_up (fun _ => none) (0 : Int32).toNatClampNeg (some q_36)) (1 : Int32).toNatClampNeg (some q_41)) (2 : Int32).toNatClampNeg (some q_46)) (3 : Int32).toNatClampNeg (some q_51)) (4 : Int32).toNatClampNeg (some q_56)) (5 : Int32).toNatClampNeg (some q_61))))))) :: (q_2, .inr (0, [.ref q_5, .ref q_8, .ref q_9, .int 0, .int 0, .int 0, .int 60, .int 0, .int 1])) :: (q_5, .inr (6, [.ref q_6, .ref q_7, .int 20, .int 0, .int 3])) :: (q_6, .inl (cZ, 40, .inl (fun _ => 0))) :: (q_7, .inl (cI, 40, .inl (fun _ => 0))) :: (q_8, .inl (cP, 8, .inr (.inr (.inr (.inr (fun _ => none)))))) :: (q_9, .inl (cI, 3, .inl (zL3 5 10 50))) :: (q_10, .inr (0, [.ref q_13, .ref q_16, .ref q_17, .int 0, .int 0, .int 0, .int 60, .int 0, .int 1])) :: (q_13, .inr (6, [.ref q_14, .ref q_15, .int 20, .int 0, .int 3])) :: (q_14, .inl (cZ, 40, .inl (fun _ => 0))) :: (q_15, .inl (cI, 40, .inl (fun _ => 0))) :: (q_16, .inl (cP, 8, .inr (.inr (.inr (.inr (fun _ => none)))))) :: (q_17, .inl (cI, 3, .inl (zL3 5 10 50))) :: (q_18, .inr (5, [.ref q_21, .ref q_22, .ref q_23, .ref q_24, .int 0, .int 0, .int 0])) :: (q_21, .inl (cI, 125, .inl (fun _ => 0))) :: (q_22, .inl (cI, 125, .inl (fun _ => 0))) :: (q_23, .inl (cI, 3, .inl (fun _ => 0))) :: (q_24, .inl (cP, 8, .inr (.inr (.inr (.inr (fun _ => none)))))) :: (q_25, .inr (3, [.ref q_28, .ref q_29, .int 0, .int 0, .int 0, .int (-1), .int 0, .int 0])) :: (q_28, .inl (cI, 132, .inl (fun _ => 0))) :: (q_29, .inl (cI, 160, .inl (fun _ => 0))) :: (q_30, .inr (1, [.ref q_33, .int 0, .int 0, .int 0, .int 0])) :: (q_33, .inl (cI, 20, .inl (fun _ => 0))) :: (q_34, .inl (cI, 8, .inl (fun _ => 0))) :: (q_36, .inr (4, [.ref q_39, .int (-1), .int 0])) :: (q_39, .inl (cJ, 160, .inr (.inl (fun _ => 0)))) :: (q_41, .inr (4, [.ref q_44, .int (-1), .int 0])) :: (q_44, .inl (cJ, 160, .inr (.inl (fun _ => 0)))) :: (q_46, .inr (4, [.ref q_49, .int (-1), .int 0])) :: (q_49, .inl (cJ, 160, .inr (.inl (fun _ => 0)))) :: (q_51, .inr (4, [.ref q_54, .int (-1), .int 0])) :: (q_54, .inl (cJ, 160, .inr (.inl (fun _ => 0)))) :: (q_56, .inr (4, [.ref q_59, .int (-1), .int 0])) :: (q_59, .inl (cJ, 160, .inr (.inl (fun _ => 0)))) :: (q_61, .inr (4, [.ref q_64, .int (-1), .int 0])) :: (q_64, .inl (cJ, 160, .inr (.inl (fun _ => 0)))) :: (q_66, .inr (4, [.null, .int 0, .int 0])) :: [])) hP hD rfl
                clear hP hD
                obtain ⟨hP, hD⟩ := h9R
                refine W.widen (k := 37) (n := 1800) (Nat.le_of_ble_eq_true rfl) (Nat.le_of_ble_eq_true rfl) ?_
                refine lv_dup hx hb dX7_init_102 rfl ?_
                skip
                refine zw_IN (As := []) (rest := [.ref q_66, .int 6, .ref q_1]) (wr := ((x0, .inr (7, [.ref q_1, .ref q_2, .ref q_10, .ref q_18, .ref q_25, .ref q_30, .ref q_34, .int 0, .int (-1)])) :: (q_1, .inl (cS, 8, .inr (.inr (.inr (.inr (va_up (va_up (va_up (va_up (va_up (va_up (fun _ => none) (0 : Int32).toNatClampNeg (some q_36)) (1 : Int32).toNatClampNeg (some q_41)) (2 : Int32).toNatClampNeg (some q_46)) (3 : Int32).toNatClampNeg (some q_51)) (4 : Int32).toNatClampNeg (some q_56)) (5 : Int32).toNatClampNeg (some q_61))))))) :: (q_2, .inr (0, [.ref q_5, .ref q_8, .ref q_9, .int 0, .int 0, .int 0, .int 60, .int 0, .int 1])) :: (q_5, .inr (6, [.ref q_6, .ref q_7, .int 20, .int 0, .int 3])) :: (q_6, .inl (cZ, 40, .inl (fun _ => 0))) :: (q_7, .inl (cI, 40, .inl (fun _ => 0))) :: (q_8, .inl (cP, 8, .inr (.inr (.inr (.inr (fun _ => none)))))) :: (q_9, .inl (cI, 3, .inl (zL3 5 10 50))) :: (q_10, .inr (0, [.ref q_13, .ref q_16, .ref q_17, .int 0, .int 0, .int 0, .int 60, .int 0, .int 1])) :: (q_13, .inr (6, [.ref q_14, .ref q_15, .int 20, .int 0, .int 3])) :: (q_14, .inl (cZ, 40, .inl (fun _ => 0))) :: (q_15, .inl (cI, 40, .inl (fun _ => 0))) :: (q_16, .inl (cP, 8, .inr (.inr (.inr (.inr (fun _ => none)))))) :: (q_17, .inl (cI, 3, .inl (zL3 5 10 50))) :: (q_18, .inr (5, [.ref q_21, .ref q_22, .ref q_23, .ref q_24, .int 0, .int 0, .int 0])) :: (q_21, .inl (cI, 125, .inl (fun _ => 0))) :: (q_22, .inl (cI, 125, .inl (fun _ => 0))) :: (q_23, .inl (cI, 3, .inl (fun _ => 0))) :: (q_24, .inl (cP, 8, .inr (.inr (.inr (.inr (fun _ => none)))))) :: (q_25, .inr (3, [.ref q_28, .ref q_29, .int 0, .int 0, .int 0, .int (-1), .int 0, .int 0])) :: (q_28, .inl (cI, 132, .inl (fun _ => 0))) :: (q_29, .inl (cI, 160, .inl (fun _ => 0))) :: (q_30, .inr (1, [.ref q_33, .int 0, .int 0, .int 0, .int 0])) :: (q_33, .inl (cI, 20, .inl (fun _ => 0))) :: (q_34, .inl (cI, 8, .inl (fun _ => 0))) :: (q_36, .inr (4, [.ref q_39, .int (-1), .int 0])) :: (q_39, .inl (cJ, 160, .inr (.inl (fun _ => 0)))) :: (q_41, .inr (4, [.ref q_44, .int (-1), .int 0])) :: (q_44, .inl (cJ, 160, .inr (.inl (fun _ => 0)))) :: (q_46, .inr (4, [.ref q_49, .int (-1), .int 0])) :: (q_49, .inl (cJ, 160, .inr (.inl (fun _ => 0)))) :: (q_51, .inr (4, [.ref q_54, .int (-1), .int 0])) :: (q_54, .inl (cJ, 160, .inr (.inl (fun _ => 0)))) :: (q_56, .inr (4, [.ref q_59, .int (-1), .int 0])) :: (q_59, .inl (cJ, 160, .inr (.inl (fun _ => 0)))) :: (q_61, .inr (4, [.ref q_64, .int (-1), .int 0])) :: (q_64, .inl (cJ, 160, .inr (.inl (fun _ => 0)))) :: [])) ⟨hx, hb, hml, hown, hts⟩ (c_Shelf_init l D cI cJ cZ cP cS po q_66  H.size) ⟨(va_cnB 0 hts gX7_init_X4_init_n58 rfl rfl rfl (hN.1 (RX7, 58, yX4_init) (List.mem_of_getElem? (i := 5) rfl)) (hts _ (List.mem_of_getElem? (i := 28) rfl)) dh_X4_init ⟨Nat.le_of_ble_eq_true rfl, Nat.le_of_ble_eq_true rfl⟩), rfl, (hts _ (List.mem_of_getElem? (i := 84) rfl))⟩ hK hN (hZ.kept hS) hP hD hS hA [37] [0, 1, 2, 3, 4, 5, 6, 7, 8, 9, 10, 11, 12, 13, 14, 15, 16, 17, 18, 19, 20, 21, 22, 23, 24, 25, 26, 27, 28, 29, 30, 31, 32, 33, 34, 35, 36] rfl rfl (by decide) (by decide) (by decide) rfl hl.1 rfl (Nat.le_of_ble_eq_true rfl) dX7_init_103 ⟨Nat.le_of_ble_eq_true rfl, Nat.le_of_ble_eq_true rfl⟩ (fun u_68 H locs hr_67 hP hD hS => ?_)
                obtain ⟨q_69, rfl⟩ : ∃ z, z = u_68 := ⟨_, rfl⟩
                have h9R := zRe (ws' := ((x0, .inr (7, [.ref q_1, .ref q_2, .ref q_10, .ref q_18, .ref q_25, .ref q_30, .ref q_34, .int 0, .int (-1)])) :: (q_1, .inl (cS, 8, .inr (.inr (.inr (.inr (va_up (va_up (va_up (va_up (va_up (va_up (fun _ => none) (0 : Int32).toNatClampNeg (some q_36)) (1 : Int32).toNatClampNeg (some q_41)) (2 : Int32).toNatClampNeg (some q_46)) (3 : Int32).toNatClampNeg (some q_51)) (4 : Int32).toNatClampNeg (some q_56)) (5 : Int32).toNatClampNeg (some q_61))))))) :: (q_2, .inr (0, [.ref q_5, .ref q_8, .ref q_9, .int 0, .int 0, .int 0, .int 60, .int 0, .int 1])) :: (q_5, .inr (6, [.ref q_6, .ref q_7, .int 20, .int 0, .int 3])) :: (q_6, .inl (cZ, 40, .inl (fun _ => 0))) :: (q_7, .inl (cI, 40, .inl (fun _ => 0))) :: (q_8, .inl (cP, 8, .inr (.inr (.inr (.inr (fun _ => none)))))) :: (q_9, .inl (cI, 3, .inl (zL3 5 10 50))) :: (q_10, .inr (0, [.ref q_13, .ref q_16, .ref q_17, .int 0, .int 0, .int 0, .int 60, .int 0, .int 1])) :: (q_13, .inr (6, [.ref q_14, .ref q_15, .int 20, .int 0, .int 3])) :: (q_14, .inl (cZ, 40, .inl (fun _ => 0))) :: (q_15, .inl (cI, 40, .inl (fun _ => 0))) :: (q_16, .inl (cP, 8, .inr (.inr (.inr (.inr (fun _ => none)))))) :: (q_17, .inl (cI, 3, .inl (zL3 5 10 50))) :: (q_18, .inr (5, [.ref q_21, .ref q_22, .ref q_23, .ref q_24, .int 0, .int 0, .int 0])) :: (q_21, .inl (cI, 125, .inl (fun _ => 0))) :: (q_22, .inl (cI, 125, .inl (fun _ => 0))) :: (q_23, .inl (cI, 3, .inl (fun _ => 0))) :: (q_24, .inl (cP, 8, .inr (.inr (.inr (.inr (fun _ => none)))))) :: (q_25, .inr (3, [.ref q_28, .ref q_29, .int 0, .int 0, .int 0, .int (-1), .int 0, .int 0])) :: (q_28, .inl (cI, 132, .inl (fun _ => 0))) :: (q_29, .inl (cI, 160, .inl (fun _ => 0))) :: (q_30, .inr (1, [.ref q_33, .int 0, .int 0, .int 0, .int 0])) :: (q_33, .inl (cI, 20, .inl (fun _ => 0))) :: (q_34, .inl (cI, 8, .inl (fun _ => 0))) :: (q_36, .inr (4, [.ref q_39, .int (-1), .int 0])) :: (q_39, .inl (cJ, 160, .inr (.inl (fun _ => 0)))) :: (q_41, .inr (4, [.ref q_44, .int (-1), .int 0])) :: (q_44, .inl (cJ, 160, .inr (.inl (fun _ => 0)))) :: (q_46, .inr (4, [.ref q_49, .int (-1), .int 0])) :: (q_49, .inl (cJ, 160, .inr (.inl (fun _ => 0)))) :: (q_51, .inr (4, [.ref q_54, .int (-1), .int 0])) :: (q_54, .inl (cJ, 160, .inr (.inl (fun _ => 0)))) :: (q_56, .inr (4, [.ref q_59, .int (-1), .int 0])) :: (q_59, .inl (cJ, 160, .inr (.inl (fun _ => 0)))) :: (q_61, .inr (4, [.ref q_64, .int (-1), .int 0])) :: (q_64, .inl (cJ, 160, .inr (.inl (fun _ => 0)))) :: (q_66, .inr (4, [.ref q_69, .int (-1), .int 0])) :: (q_69, .inl (cJ, 160, .inr (.inl (fun _ => 0)))) :: [])) hP hD rfl
                clear hP hD
                obtain ⟨hP, hD⟩ := h9R
                refine W.widen (k := 38) (n := 1960) (Nat.le_of_ble_eq_true rfl) (Nat.le_of_ble_eq_true rfl) ?_
                refine va_astq hx hb hK hP hD hS 1 4 37 4 rfl rfl rfl rfl (zf_in (by decide) (by decide)) dX7_init_106 (fun H locs hP hD hS => ?_)
                have h9R := zRe (ws' := ((x0, .inr (7, [.ref q_1, .ref q_2, .ref q_10, .ref q_18, .ref q_25, .ref q_30, .ref q_34, .int 0, .int (-1)])) :: (q_1, .inl (cS, 8, .inr (.inr (.inr (.inr (va_up (va_up (va_up (va_up (va_up (va_up (va_up (fun _ => none) (0 : Int32).toNatClampNeg (some q_36)) (1 : Int32).toNatClampNeg (some q_41)) (2 : Int32).toNatClampNeg (some q_46)) (3 : Int32).toNatClampNeg (some q_51)) (4 : Int32).toNatClampNeg (some q_56)) (5 : Int32).toNatClampNeg (some q_61)) (6 : Int32).toNatClampNeg (some q_66))))))) :: (q_2, .inr (0, [.ref q_5, .ref q_8, .ref q_9, .int 0, .int 0, .int 0, .int 60, .int 0, .int 1])) :: (q_5, .inr (6, [.ref q_6, .ref q_7, .int 20, .int 0, .int 3])) :: (q_6, .inl (cZ, 40, .inl (fun _ => 0))) :: (q_7, .inl (cI, 40, .inl (fun _ => 0))) :: (q_8, .inl (cP, 8, .inr (.inr (.inr (.inr (fun _ => none)))))) :: (q_9, .inl (cI, 3, .inl (zL3 5 10 50))) :: (q_10, .inr (0, [.ref q_13, .ref q_16, .ref q_17, .int 0, .int 0, .int 0, .int 60, .int 0, .int 1])) :: (q_13, .inr (6, [.ref q_14, .ref q_15, .int 20, .int 0, .int 3])) :: (q_14, .inl (cZ, 40, .inl (fun _ => 0))) :: (q_15, .inl (cI, 40, .inl (fun _ => 0))) :: (q_16, .inl (cP, 8, .inr (.inr (.inr (.inr (fun _ => none)))))) :: (q_17, .inl (cI, 3, .inl (zL3 5 10 50))) :: (q_18, .inr (5, [.ref q_21, .ref q_22, .ref q_23, .ref q_24, .int 0, .int 0, .int 0])) :: (q_21, .inl (cI, 125, .inl (fun _ => 0))) :: (q_22, .inl (cI, 125, .inl (fun _ => 0))) :: (q_23, .inl (cI, 3, .inl (fun _ => 0))) :: (q_24, .inl (cP, 8, .inr (.inr (.inr (.inr (fun _ => none)))))) :: (q_25, .inr (3, [.ref q_28, .ref q_29, .int 0, .int 0, .int 0, .int (-1), .int 0, .int 0])) :: (q_28, .inl (cI, 132, .inl (fun _ => 0))) :: (q_29, .inl (cI, 160, .inl (fun _ => 0))) :: (q_30, .inr (1, [.ref q_33, .int 0, .int 0, .int 0, .int 0])) :: (q_33, .inl (cI, 20, .inl (fun _ => 0))) :: (q_34, .inl (cI, 8, .inl (fun _ => 0))) :: (q_36, .inr (4, [.ref q_39, .int (-1), .int 0])) :: (q_39, .inl (cJ, 160, .inr (.inl (fun _ => 0)))) :: (q_41, .inr (4, [.ref q_44, .int (-1), .int 0])) :: (q_44, .inl (cJ, 160, .inr (.inl (fun _ => 0)))) :: (q_46, .inr (4, [.ref q_49, .int (-1), .int 0])) :: (q_49, .inl (cJ, 160, .inr (.inl (fun _ => 0)))) :: (q_51, .inr (4, [.ref q_54, .int (-1), .int 0])) :: (q_54, .inl (cJ, 160, .inr (.inl (fun _ => 0)))) :: (q_56, .inr (4, [.ref q_59, .int (-1), .int 0])) :: (q_59, .inl (cJ, 160, .inr (.inl (fun _ => 0)))) :: (q_61, .inr (4, [.ref q_64, .int (-1), .int 0])) :: (q_64, .inl (cJ, 160, .inr (.inl (fun _ => 0)))) :: (q_66, .inr (4, [.ref q_69, .int (-1), .int 0])) :: (q_69, .inl (cJ, 160, .inr (.inl (fun _ => 0)))) :: [])) hP hD rfl
                clear hP hD
                obtain ⟨hP, hD⟩ := h9R
                refine lv_iinc (v := 7) (lv' := [(1, .int 7), (0, .ref x0)]) hx hb dX7_init_107 hl (k := 0) rfl (by decide) (by decide) rfl (fun ls hl => ?_)
                refine lv_goto (tgt := 88) hx hb dX7_init_110 (by decide) ?_
                refine lv_iload_n hx hb dX7_init_88 rfl (lv_at hl 0 rfl) ?_
                refine lv_bipush (v := 8) hx hb dX7_init_89 (by decide) ?_
                refine lv_icmp_ge (tgt := 113) hx hb dX7_init_91 (by decide) (fun c_70 => ?_) (fun c_70 => ?_)
                · exact absurd c_70 (by decide)
                · refine lv_aload_n hx hb dX7_init_94 rfl (lv_at hl 1 rfl) ?_
                  refine va_get (D := D) (ci := 7) (v := .ref q_1) (C := RX7) (T := TX7) (N := 9) hx hb hts hi_X7_init_7 hown hK hP 0 rfl rfl 0 (by decide) (hts (.fieldLink RX7 11 "TheLiningsInIt" "shelves" "[LTheLiningsInIt$Shelf;") (List.mem_of_getElem? (i := 5) rfl)) (fun _ h9 => h9) rfl dX7_init_95 ?_
                  refine lv_iload_n hx hb dX7_init_98 rfl (lv_at hl 0 rfl) ?_
                  refine va_new (ci := 4) (fs := [.null, .int 0, .int 0]) (C := RX4) (T := TX4) (N := 3) hx hb hts hi_X7_init_4 tyX4 tyX4_ok hown (hts (.classLink RX7 9 RX4) (List.mem_of_getElem? (i := 4) rfl)) (hts _ (List.mem_of_getElem? (i := 27) rfl)) (hts _ (List.mem_of_getElem? (i := 28) rfl)) hK hP hD hS hA rfl (fun j hj => by rcases (show j = 0 ∨ j = 1 ∨ j = 2 by omega) with rfl | rfl | rfl <;> rfl) (Nat.le_of_ble_eq_true rfl) (Nat.le_of_ble_eq_true rfl) dX7_init_99 (fun q_71 H hP hD hS => ?_)
                  have h9R := zRe (ws' := ((x0, .inr (7, [.ref q_1, .ref q_2, .ref q_10, .ref q_18, .ref q_25, .ref q_30, .ref q_34, .int 0, .int (-1)])) :: (q_1, .inl (cS, 8, .inr (.inr (.inr (.inr (va_up (va_up (va_up (va_up (va_up (va_up (va_up (fun _ => none) (0 : Int32).toNatClampNeg (some q_36)) (1 : Int32).toNatClampNeg (some q_41)) (2 : Int32).toNatClampNeg (some q_46)) (3 : Int32).toNatClampNeg (some q_51)) (4 : Int32).toNatClampNeg (some q_56)) (5 : Int32).toNatClampNeg (some q_61)) (6 : Int32).toNatClampNeg (some q_66))))))) :: (q_2, .inr (0, [.ref q_5, .ref q_8, .ref q_9, .int 0, .int 0, .int 0, .int 60, .int 0, .int 1])) :: (q_5, .inr (6, [.ref q_6, .ref q_7, .int 20, .int 0, .int 3])) :: (q_6, .inl (cZ, 40, .inl (fun _ => 0))) :: (q_7, .inl (cI, 40, .inl (fun _ => 0))) :: (q_8, .inl (cP, 8, .inr (.inr (.inr (.inr (fun _ => none)))))) :: (q_9, .inl (cI, 3, .inl (zL3 5 10 50))) :: (q_10, .inr (0, [.ref q_13, .ref q_16, .ref q_17, .int 0, .int 0, .int 0, .int 60, .int 0, .int 1])) :: (q_13, .inr (6, [.ref q_14, .ref q_15, .int 20, .int 0, .int 3])) :: (q_14, .inl (cZ, 40, .inl (fun _ => 0))) :: (q_15, .inl (cI, 40, .inl (fun _ => 0))) :: (q_16, .inl (cP, 8, .inr (.inr (.inr (.inr (fun _ => none)))))) :: (q_17, .inl (cI, 3, .inl (zL3 5 10 50))) :: (q_18, .inr (5, [.ref q_21, .ref q_22, .ref q_23, .ref q_24, .int 0, .int 0, .int 0])) :: (q_21, .inl (cI, 125, .inl (fun _ => 0))) :: (q_22, .inl (cI, 125, .inl (fun _ => 0))) :: (q_23, .inl (cI, 3, .inl (fun _ => 0))) :: (q_24, .inl (cP, 8, .inr (.inr (.inr (.inr (fun _ => none)))))) :: (q_25, .inr (3, [.ref q_28, .ref q_29, .int 0, .int 0, .int 0, .int (-1), .int 0, .int 0])) :: (q_28, .inl (cI, 132, .inl (fun _ => 0))) :: (q_29, .inl (cI, 160, .inl (fun _ => 0))) :: (q_30, .inr (1, [.ref q_33, .int 0, .int 0, .int 0, .int 0])) :: (q_33, .inl (cI, 20, .inl (fun _ => 0))) :: (q_34, .inl (cI, 8, .inl (fun _ => 0))) :: (q_36, .inr (4, [.ref q_39, .int (-1), .int 0])) :: (q_39, .inl (cJ, 160, .inr (.inl (fun _ => 0)))) :: (q_41, .inr (4, [.ref q_44, .int (-1), .int 0])) :: (q_44, .inl (cJ, 160, .inr (.inl (fun _ => 0)))) :: (q_46, .inr (4, [.ref q_49, .int (-1), .int 0])) :: (q_49, .inl (cJ, 160, .inr (.inl (fun _ => 0)))) :: (q_51, .inr (4, [.ref q_54, .int (-1), .int 0])) :: (q_54, .inl (cJ, 160, .inr (.inl (fun _ => 0)))) :: (q_56, .inr (4, [.ref q_59, .int (-1), .int 0])) :: (q_59, .inl (cJ, 160, .inr (.inl (fun _ => 0)))) :: (q_61, .inr (4, [.ref q_64, .int (-1), .int 0])) :: (q_64, .inl (cJ, 160, .inr (.inl (fun _ => 0)))) :: (q_66, .inr (4, [.ref q_69, .int (-1), .int 0])) :: (q_69, .inl (cJ, 160, .inr (.inl (fun _ => 0)))) :: (q_71, .inr (4, [.null, .int 0, .int 0])) :: [])) hP hD rfl
                  clear hP hD
                  obtain ⟨hP, hD⟩ := h9R
                  refine W.widen (k := 39) (n := 1963) (Nat.le_of_ble_eq_true rfl) (Nat.le_of_ble_eq_true rfl) ?_
                  refine lv_dup hx hb dX7_init_102 rfl ?_
                  skip
                  refine zw_IN (As := []) (rest := [.ref q_71, .int 7, .ref q_1]) (wr := ((x0, .inr (7, [.ref q_1, .ref q_2, .ref q_10, .ref q_18, .ref q_25, .ref q_30, .ref q_34, .int 0, .int (-1)])) :: (q_1, .inl (cS, 8, .inr (.inr (.inr (.inr (va_up (va_up (va_up (va_up (va_up (va_up (va_up (fun _ => none) (0 : Int32).toNatClampNeg (some q_36)) (1 : Int32).toNatClampNeg (some q_41)) (2 : Int32).toNatClampNeg (some q_46)) (3 : Int32).toNatClampNeg (some q_51)) (4 : Int32).toNatClampNeg (some q_56)) (5 : Int32).toNatClampNeg (some q_61)) (6 : Int32).toNatClampNeg (some q_66))))))) :: (q_2, .inr (0, [.ref q_5, .ref q_8, .ref q_9, .int 0, .int 0, .int 0, .int 60, .int 0, .int 1])) :: (q_5, .inr (6, [.ref q_6, .ref q_7, .int 20, .int 0, .int 3])) :: (q_6, .inl (cZ, 40, .inl (fun _ => 0))) :: (q_7, .inl (cI, 40, .inl (fun _ => 0))) :: (q_8, .inl (cP, 8, .inr (.inr (.inr (.inr (fun _ => none)))))) :: (q_9, .inl (cI, 3, .inl (zL3 5 10 50))) :: (q_10, .inr (0, [.ref q_13, .ref q_16, .ref q_17, .int 0, .int 0, .int 0, .int 60, .int 0, .int 1])) :: (q_13, .inr (6, [.ref q_14, .ref q_15, .int 20, .int 0, .int 3])) :: (q_14, .inl (cZ, 40, .inl (fun _ => 0))) :: (q_15, .inl (cI, 40, .inl (fun _ => 0))) :: (q_16, .inl (cP, 8, .inr (.inr (.inr (.inr (fun _ => none)))))) :: (q_17, .inl (cI, 3, .inl (zL3 5 10 50))) :: (q_18, .inr (5, [.ref q_21, .ref q_22, .ref q_23, .ref q_24, .int 0, .int 0, .int 0])) :: (q_21, .inl (cI, 125, .inl (fun _ => 0))) :: (q_22, .inl (cI, 125, .inl (fun _ => 0))) :: (q_23, .inl (cI, 3, .inl (fun _ => 0))) :: (q_24, .inl (cP, 8, .inr (.inr (.inr (.inr (fun _ => none)))))) :: (q_25, .inr (3, [.ref q_28, .ref q_29, .int 0, .int 0, .int 0, .int (-1), .int 0, .int 0])) :: (q_28, .inl (cI, 132, .inl (fun _ => 0))) :: (q_29, .inl (cI, 160, .inl (fun _ => 0))) :: (q_30, .inr (1, [.ref q_33, .int 0, .int 0, .int 0, .int 0])) :: (q_33, .inl (cI, 20, .inl (fun _ => 0))) :: (q_34, .inl (cI, 8, .inl (fun _ => 0))) :: (q_36, .inr (4, [.ref q_39, .int (-1), .int 0])) :: (q_39, .inl (cJ, 160, .inr (.inl (fun _ => 0)))) :: (q_41, .inr (4, [.ref q_44, .int (-1), .int 0])) :: (q_44, .inl (cJ, 160, .inr (.inl (fun _ => 0)))) :: (q_46, .inr (4, [.ref q_49, .int (-1), .int 0])) :: (q_49, .inl (cJ, 160, .inr (.inl (fun _ => 0)))) :: (q_51, .inr (4, [.ref q_54, .int (-1), .int 0])) :: (q_54, .inl (cJ, 160, .inr (.inl (fun _ => 0)))) :: (q_56, .inr (4, [.ref q_59, .int (-1), .int 0])) :: (q_59, .inl (cJ, 160, .inr (.inl (fun _ => 0)))) :: (q_61, .inr (4, [.ref q_64, .int (-1), .int 0])) :: (q_64, .inl (cJ, 160, .inr (.inl (fun _ => 0)))) :: (q_66, .inr (4, [.ref q_69, .int (-1), .int 0])) :: (q_69, .inl (cJ, 160, .inr (.inl (fun _ => 0)))) :: [])) ⟨hx, hb, hml, hown, hts⟩ (c_Shelf_init l D cI cJ cZ cP cS po q_71  H.size) ⟨(va_cnB 0 hts gX7_init_X4_init_n58 rfl rfl rfl (hN.1 (RX7, 58, yX4_init) (List.mem_of_getElem? (i := 5) rfl)) (hts _ (List.mem_of_getElem? (i := 28) rfl)) dh_X4_init ⟨Nat.le_of_ble_eq_true rfl, Nat.le_of_ble_eq_true rfl⟩), rfl, (hts _ (List.mem_of_getElem? (i := 84) rfl))⟩ hK hN (hZ.kept hS) hP hD hS hA [39] [0, 1, 2, 3, 4, 5, 6, 7, 8, 9, 10, 11, 12, 13, 14, 15, 16, 17, 18, 19, 20, 21, 22, 23, 24, 25, 26, 27, 28, 29, 30, 31, 32, 33, 34, 35, 36, 37, 38] rfl rfl (by decide) (by decide) (by decide) rfl hl.1 rfl (Nat.le_of_ble_eq_true rfl) dX7_init_103 ⟨Nat.le_of_ble_eq_true rfl, Nat.le_of_ble_eq_true rfl⟩ (fun u_73 H locs hr_72 hP hD hS => ?_)
                  obtain ⟨q_74, rfl⟩ : ∃ z, z = u_73 := ⟨_, rfl⟩
                  have h9R := zRe (ws' := ((x0, .inr (7, [.ref q_1, .ref q_2, .ref q_10, .ref q_18, .ref q_25, .ref q_30, .ref q_34, .int 0, .int (-1)])) :: (q_1, .inl (cS, 8, .inr (.inr (.inr (.inr (va_up (va_up (va_up (va_up (va_up (va_up (va_up (fun _ => none) (0 : Int32).toNatClampNeg (some q_36)) (1 : Int32).toNatClampNeg (some q_41)) (2 : Int32).toNatClampNeg (some q_46)) (3 : Int32).toNatClampNeg (some q_51)) (4 : Int32).toNatClampNeg (some q_56)) (5 : Int32).toNatClampNeg (some q_61)) (6 : Int32).toNatClampNeg (some q_66))))))) :: (q_2, .inr (0, [.ref q_5, .ref q_8, .ref q_9, .int 0, .int 0, .int 0, .int 60, .int 0, .int 1])) :: (q_5, .inr (6, [.ref q_6, .ref q_7, .int 20, .int 0, .int 3])) :: (q_6, .inl (cZ, 40, .inl (fun _ => 0))) :: (q_7, .inl (cI, 40, .inl (fun _ => 0))) :: (q_8, .inl (cP, 8, .inr (.inr (.inr (.inr (fun _ => none)))))) :: (q_9, .inl (cI, 3, .inl (zL3 5 10 50))) :: (q_10, .inr (0, [.ref q_13, .ref q_16, .ref q_17, .int 0, .int 0, .int 0, .int 60, .int 0, .int 1])) :: (q_13, .inr (6, [.ref q_14, .ref q_15, .int 20, .int 0, .int 3])) :: (q_14, .inl (cZ, 40, .inl (fun _ => 0))) :: (q_15, .inl (cI, 40, .inl (fun _ => 0))) :: (q_16, .inl (cP, 8, .inr (.inr (.inr (.inr (fun _ => none)))))) :: (q_17, .inl (cI, 3, .inl (zL3 5 10 50))) :: (q_18, .inr (5, [.ref q_21, .ref q_22, .ref q_23, .ref q_24, .int 0, .int 0, .int 0])) :: (q_21, .inl (cI, 125, .inl (fun _ => 0))) :: (q_22, .inl (cI, 125, .inl (fun _ => 0))) :: (q_23, .inl (cI, 3, .inl (fun _ => 0))) :: (q_24, .inl (cP, 8, .inr (.inr (.inr (.inr (fun _ => none)))))) :: (q_25, .inr (3, [.ref q_28, .ref q_29, .int 0, .int 0, .int 0, .int (-1), .int 0, .int 0])) :: (q_28, .inl (cI, 132, .inl (fun _ => 0))) :: (q_29, .inl (cI, 160, .inl (fun _ => 0))) :: (q_30, .inr (1, [.ref q_33, .int 0, .int 0, .int 0, .int 0])) :: (q_33, .inl (cI, 20, .inl (fun _ => 0))) :: (q_34, .inl (cI, 8, .inl (fun _ => 0))) :: (q_36, .inr (4, [.ref q_39, .int (-1), .int 0])) :: (q_39, .inl (cJ, 160, .inr (.inl (fun _ => 0)))) :: (q_41, .inr (4, [.ref q_44, .int (-1), .int 0])) :: (q_44, .inl (cJ, 160, .inr (.inl (fun _ => 0)))) :: (q_46, .inr (4, [.ref q_49, .int (-1), .int 0])) :: (q_49, .inl (cJ, 160, .inr (.inl (fun _ => 0)))) :: (q_51, .inr (4, [.ref q_54, .int (-1), .int 0])) :: (q_54, .inl (cJ, 160, .inr (.inl (fun _ => 0)))) :: (q_56, .inr (4, [.ref q_59, .int (-1), .int 0])) :: (q_59, .inl (cJ, 160, .inr (.inl (fun _ => 0)))) :: (q_61, .inr (4, [.ref q_64, .int (-1), .int 0])) :: (q_64, .inl (cJ, 160, .inr (.inl (fun _ => 0)))) :: (q_66, .inr (4, [.ref q_69, .int (-1), .int 0])) :: (q_69, .inl (cJ, 160, .inr (.inl (fun _ => 0)))) :: (q_71, .inr (4, [.ref q_74, .int (-1), .int 0])) :: (q_74, .inl (cJ, 160, .inr (.inl (fun _ => 0)))) :: [])) hP hD rfl
                  clear hP hD
                  obtain ⟨hP, hD⟩ := h9R
                  refine W.widen (k := 40) (n := 2123) (Nat.le_of_ble_eq_true rfl) (Nat.le_of_ble_eq_true rfl) ?_
                  refine va_astq hx hb hK hP hD hS 1 4 39 4 rfl rfl rfl rfl (zf_in (by decide) (by decide)) dX7_init_106 (fun H locs hP hD hS => ?_)
                  have h9R := zRe (ws' := ((x0, .inr (7, [.ref q_1, .ref q_2, .ref q_10, .ref q_18, .ref q_25, .ref q_30, .ref q_34, .int 0, .int (-1)])) :: (q_1, .inl (cS, 8, .inr (.inr (.inr (.inr (va_up (va_up (va_up (va_up (va_up (va_up (va_up (va_up (fun _ => none) (0 : Int32).toNatClampNeg (some q_36)) (1 : Int32).toNatClampNeg (some q_41)) (2 : Int32).toNatClampNeg (some q_46)) (3 : Int32).toNatClampNeg (some q_51)) (4 : Int32).toNatClampNeg (some q_56)) (5 : Int32).toNatClampNeg (some q_61)) (6 : Int32).toNatClampNeg (some q_66)) (7 : Int32).toNatClampNeg (some q_71))))))) :: (q_2, .inr (0, [.ref q_5, .ref q_8, .ref q_9, .int 0, .int 0, .int 0, .int 60, .int 0, .int 1])) :: (q_5, .inr (6, [.ref q_6, .ref q_7, .int 20, .int 0, .int 3])) :: (q_6, .inl (cZ, 40, .inl (fun _ => 0))) :: (q_7, .inl (cI, 40, .inl (fun _ => 0))) :: (q_8, .inl (cP, 8, .inr (.inr (.inr (.inr (fun _ => none)))))) :: (q_9, .inl (cI, 3, .inl (zL3 5 10 50))) :: (q_10, .inr (0, [.ref q_13, .ref q_16, .ref q_17, .int 0, .int 0, .int 0, .int 60, .int 0, .int 1])) :: (q_13, .inr (6, [.ref q_14, .ref q_15, .int 20, .int 0, .int 3])) :: (q_14, .inl (cZ, 40, .inl (fun _ => 0))) :: (q_15, .inl (cI, 40, .inl (fun _ => 0))) :: (q_16, .inl (cP, 8, .inr (.inr (.inr (.inr (fun _ => none)))))) :: (q_17, .inl (cI, 3, .inl (zL3 5 10 50))) :: (q_18, .inr (5, [.ref q_21, .ref q_22, .ref q_23, .ref q_24, .int 0, .int 0, .int 0])) :: (q_21, .inl (cI, 125, .inl (fun _ => 0))) :: (q_22, .inl (cI, 125, .inl (fun _ => 0))) :: (q_23, .inl (cI, 3, .inl (fun _ => 0))) :: (q_24, .inl (cP, 8, .inr (.inr (.inr (.inr (fun _ => none)))))) :: (q_25, .inr (3, [.ref q_28, .ref q_29, .int 0, .int 0, .int 0, .int (-1), .int 0, .int 0])) :: (q_28, .inl (cI, 132, .inl (fun _ => 0))) :: (q_29, .inl (cI, 160, .inl (fun _ => 0))) :: (q_30, .inr (1, [.ref q_33, .int 0, .int 0, .int 0, .int 0])) :: (q_33, .inl (cI, 20, .inl (fun _ => 0))) :: (q_34, .inl (cI, 8, .inl (fun _ => 0))) :: (q_36, .inr (4, [.ref q_39, .int (-1), .int 0])) :: (q_39, .inl (cJ, 160, .inr (.inl (fun _ => 0)))) :: (q_41, .inr (4, [.ref q_44, .int (-1), .int 0])) :: (q_44, .inl (cJ, 160, .inr (.inl (fun _ => 0)))) :: (q_46, .inr (4, [.ref q_49, .int (-1), .int 0])) :: (q_49, .inl (cJ, 160, .inr (.inl (fun _ => 0)))) :: (q_51, .inr (4, [.ref q_54, .int (-1), .int 0])) :: (q_54, .inl (cJ, 160, .inr (.inl (fun _ => 0)))) :: (q_56, .inr (4, [.ref q_59, .int (-1), .int 0])) :: (q_59, .inl (cJ, 160, .inr (.inl (fun _ => 0)))) :: (q_61, .inr (4, [.ref q_64, .int (-1), .int 0])) :: (q_64, .inl (cJ, 160, .inr (.inl (fun _ => 0)))) :: (q_66, .inr (4, [.ref q_69, .int (-1), .int 0])) :: (q_69, .inl (cJ, 160, .inr (.inl (fun _ => 0)))) :: (q_71, .inr (4, [.ref q_74, .int (-1), .int 0])) :: (q_74, .inl (cJ, 160, .inr (.inl (fun _ => 0)))) :: [])) hP hD rfl
                  clear hP hD
                  obtain ⟨hP, hD⟩ := h9R
                  refine lv_iinc (v := 8) (lv' := [(1, .int 8), (0, .ref x0)]) hx hb dX7_init_107 hl (k := 0) rfl (by decide) (by decide) rfl (fun ls hl => ?_)
                  refine lv_goto (tgt := 88) hx hb dX7_init_110 (by decide) ?_
                  refine lv_iload_n hx hb dX7_init_88 rfl (lv_at hl 0 rfl) ?_
                  refine lv_bipush (v := 8) hx hb dX7_init_89 (by decide) ?_
                  refine lv_icmp_ge (tgt := 113) hx hb dX7_init_91 (by decide) (fun c_75 => ?_) (fun c_75 => ?_)
                  · refine W.widen (k := 40) (n := 2123) (Nat.le_of_ble_eq_true rfl) (Nat.le_of_ble_eq_true rfl) ?_
                    exact W.vret hx hb hr (fun t ht hW => ⟨⟨(q_1, q_2, q_5, q_6, q_7, q_8, q_9, q_10, q_13, q_14, q_15, q_16, q_17, q_18, q_21, q_22, q_23, q_24, q_25, q_28, q_29, q_30, q_33, q_34, q_36, q_39, q_41, q_44, q_46, q_49, q_51, q_54, q_56, q_59, q_61, q_64, q_66, q_69, q_71, q_74), rfl, trivial, zRet ht hP hD [0, 1, 2, 3, 4, 5, 6, 7, 8, 9, 10, 11, 12, 13, 14, 15, 16, 17, 18, 19, 20, 21, 22, 23, 24, 25, 26, 27, 28, 29, 30, 31, 32, 33, 34, 35, 36, 37, 38, 39, 40] (by decide) rfl⟩, hS.F ht⟩) hS.2.2 dX7_init_113
                  · exact absurd c_75 (by decide)
end
section
theorem gl_X8_init_X80 : GoodIn wsX8_init wsX80 := (dg_t (dg_r gw_wsX80))
theorem hi_X8_init_8 : ∀ w ∈ u_ws RX8 TX8 38, w ∈ wsX8_init := fun w h => (gl_X8_init_X80 w h).1
set_option maxHeartbeats 4000000 in
set_option maxRecDepth 100000 in
theorem c_M_init (l : Launch) (D : va_G) (cI cJ cZ cP cS : ClassId) (po : zPool) (m0 : Nat)  (hpz : Nat) : Met l yX8_init wsX8_init ({ frames := 1, cells := 21, slots := 1985, locals := 12 }) (va_Pc [.ref m0] (zW D (zKT cI cJ cZ cP cS) po [(m0, .inr (8, (.int 0 :: .int 0 :: .int 0 :: .int 0 :: .int 0 :: .int 0 :: .int 0 :: .int 0 :: .int 0 :: .int 0 :: .null :: .null :: .null :: .null :: .null :: .null :: .null :: .null :: .null :: .null :: .null :: .null :: .null :: .null :: .null :: .null :: .int 0 :: .int 0 :: .int 0 :: .int 0 :: .int 0 :: .null :: .null :: .null :: .null :: .null :: .int 0 :: .int 0 :: [])))] hpz)) (va_Qv (fun (u : (Nat) × (Nat) × (Nat) × (Nat) × (Nat) × (Nat) × (Nat) × (Nat) × (Nat) × (Nat) × (Nat) × (Nat) × (Nat) × (Nat) × (Nat) × (Nat) × (Nat) × (Nat) × (Nat) × (Nat) × (Nat)) => True) (zB D [(m0, .inr (8, (.int 0 :: .int 0 :: .int 0 :: .int 0 :: .int 0 :: .int 0 :: .int 0 :: .int 0 :: .int 0 :: .int 0 :: .null :: .null :: .null :: .null :: .null :: .null :: .null :: .null :: .null :: .null :: .null :: .null :: .null :: .null :: .null :: .null :: .int 0 :: .int 0 :: .int 0 :: .int 0 :: .int 0 :: .null :: .null :: .null :: .null :: .null :: .int 0 :: .int 0 :: [])))] hpz (fun (u : (Nat) × (Nat) × (Nat) × (Nat) × (Nat) × (Nat) × (Nat) × (Nat) × (Nat) × (Nat) × (Nat) × (Nat) × (Nat) × (Nat) × (Nat) × (Nat) × (Nat) × (Nat) × (Nat) × (Nat) × (Nat)) => ((zMO m0 0 20 0 0 0 60 0 3 1 (-1) u.1 u.2.1 u.2.2.1 u.2.2.2.1 u.2.2.2.2.1 u.2.2.2.2.2.1 u.2.2.2.2.2.2.1 u.2.2.2.2.2.2.2.1 u.2.2.2.2.2.2.2.2.1 u.2.2.2.2.2.2.2.2.2.1 u.2.2.2.2.2.2.2.2.2.2.1 u.2.2.2.2.2.2.2.2.2.2.2.1 u.2.2.2.2.2.2.2.2.2.2.2.2.1 u.2.2.2.2.2.2.2.2.2.2.2.2.2.1 u.2.2.2.2.2.2.2.2.2.2.2.2.2.2.1 u.2.2.2.2.2.2.2.2.2.2.2.2.2.2.2.1 0 0 0 0 0 u.2.2.2.2.2.2.2.2.2.2.2.2.2.2.2.2.1 u.2.2.2.2.2.2.2.2.2.2.2.2.2.2.2.2.2.1 u.2.2.2.2.2.2.2.2.2.2.2.2.2.2.2.2.2.2.1 u.2.2.2.2.2.2.2.2.2.2.2.2.2.2.2.2.2.2.2.1 u.2.2.2.2.2.2.2.2.2.2.2.2.2.2.2.2.2.2.2.2 0 0) :: (u.1, .inl (cI, 8, .inl (fun _ => 0))) :: (u.2.1, .inl (cI, 8, .inl (fun _ => 0))) :: (u.2.2.1, .inl (cI, 8, .inl (fun _ => 0))) :: (u.2.2.2.1, .inl (cI, 8, .inl (fun _ => 0))) :: (u.2.2.2.2.1, .inl (cI, 40, .inl (fun _ => 0))) :: (u.2.2.2.2.2.1, .inl (cI, 40, .inl (fun _ => 0))) :: (u.2.2.2.2.2.2.1, .inl (cI, 3, .inl (zL3 5 10 50))) :: (u.2.2.2.2.2.2.2.1, .inl (cI, 8, .inl (fun _ => 0))) :: (u.2.2.2.2.2.2.2.2.1, .inl (cI, 8, .inl (fun _ => 0))) :: (u.2.2.2.2.2.2.2.2.2.1, .inl (cI, 8, .inl (fun _ => 0))) :: (u.2.2.2.2.2.2.2.2.2.2.1, .inl (cI, 8, .inl (fun _ => 0))) :: (u.2.2.2.2.2.2.2.2.2.2.2.1, .inl (cJ, 1280, .inr (.inl (fun _ => 0)))) :: (u.2.2.2.2.2.2.2.2.2.2.2.2.1, .inl (cJ, 160, .inr (.inl (fun _ => 0)))) :: (u.2.2.2.2.2.2.2.2.2.2.2.2.2.1, .inl (cI, 64, .inl (upd (upd (upd (upd (upd (upd (upd (upd (upd (upd (upd (upd (upd (upd (upd (upd (upd (upd (upd (upd (upd (upd (upd (upd (upd (upd (upd (upd (upd (upd (upd (upd (upd (upd (upd (upd (upd (upd (upd (upd (upd (upd (upd (upd (upd (upd (upd (upd (upd (upd (upd (upd (upd (upd (upd (upd (upd (upd (upd (upd (upd (upd (upd (upd (fun _ => 0) (0 : Int32).toNatClampNeg 116) (1 : Int32).toNatClampNeg 101) (2 : Int32).toNatClampNeg 101) (3 : Int32).toNatClampNeg 116) (4 : Int32).toNatClampNeg 104) (5 : Int32).toNatClampNeg 32) (6 : Int32).toNatClampNeg 0) (7 : Int32).toNatClampNeg 108) (8 : Int32).toNatClampNeg 97) (9 : Int32).toNatClampNeg 99) (10 : Int32).toNatClampNeg 107) (11 : Int32).toNatClampNeg 32) (12 : Int32).toNatClampNeg 0) (13 : Int32).toNatClampNeg 115) (14 : Int32).toNatClampNeg 108) (15 : Int32).toNatClampNeg 97) (16 : Int32).toNatClampNeg 99) (17 : Int32).toNatClampNeg 107) (18 : Int32).toNatClampNeg 32) (19 : Int32).toNatClampNeg 0) (20 : Int32).toNatClampNeg 112) (21 : Int32).toNatClampNeg 117) (22 : Int32).toNatClampNeg 108) (23 : Int32).toNatClampNeg 108) (24 : Int32).toNatClampNeg 32) (25 : Int32).toNatClampNeg 0) (26 : Int32).toNatClampNeg 100) (27 : Int32).toNatClampNeg 101) (28 : Int32).toNatClampNeg 112) (29 : Int32).toNatClampNeg 116) (30 : Int32).toNatClampNeg 104) (31 : Int32).toNatClampNeg 32) (32 : Int32).toNatClampNeg 0) (33 : Int32).toNatClampNeg 115) (34 : Int32).toNatClampNeg 101) (35 : Int32).toNatClampNeg 99) (36 : Int32).toNatClampNeg 111) (37 : Int32).toNatClampNeg 110) (38 : Int32).toNatClampNeg 100) (39 : Int32).toNatClampNeg 115) (40 : Int32).toNatClampNeg 32) (41 : Int32).toNatClampNeg 0) (42 : Int32).toNatClampNeg 104) (43 : Int32).toNatClampNeg 117) (44 : Int32).toNatClampNeg 114) (45 : Int32).toNatClampNeg 114) (46 : Int32).toNatClampNeg 121) (47 : Int32).toNatClampNeg 32) (48 : Int32).toNatClampNeg 0) (49 : Int32).toNatClampNeg 103) (50 : Int32).toNatClampNeg 97) (51 : Int32).toNatClampNeg 112) (52 : Int32).toNatClampNeg 32) (53 : Int32).toNatClampNeg 0) (54 : Int32).toNatClampNeg 99) (55 : Int32).toNatClampNeg 111) (56 : Int32).toNatClampNeg 115) (57 : Int32).toNatClampNeg 116) (58 : Int32).toNatClampNeg 32) (59 : Int32).toNatClampNeg 0) (60 : Int32).toNatClampNeg 97) (61 : Int32).toNatClampNeg 116) (62 : Int32).toNatClampNeg 32) (63 : Int32).toNatClampNeg 0))) :: (u.2.2.2.2.2.2.2.2.2.2.2.2.2.2.1, .inl (cI, 10, .inl (upd (upd (upd (upd (upd (upd (upd (upd (upd (upd (fun _ => 0) (0 : Int32).toNatClampNeg 1) (1 : Int32).toNatClampNeg 1) (2 : Int32).toNatClampNeg 2) (3 : Int32).toNatClampNeg 3) (4 : Int32).toNatClampNeg 1) (5 : Int32).toNatClampNeg 1) (6 : Int32).toNatClampNeg 1) (7 : Int32).toNatClampNeg 1) (8 : Int32).toNatClampNeg 2) (9 : Int32).toNatClampNeg 1))) :: (u.2.2.2.2.2.2.2.2.2.2.2.2.2.2.2.1, .inl (cI, 3, .inl (fun _ => 0))) :: (u.2.2.2.2.2.2.2.2.2.2.2.2.2.2.2.2.1, .inl (cI, 130, .inl (fun _ => 0))) :: (u.2.2.2.2.2.2.2.2.2.2.2.2.2.2.2.2.2.1, .inl (cI, 130, .inl (fun _ => 0))) :: (u.2.2.2.2.2.2.2.2.2.2.2.2.2.2.2.2.2.2.1, .inl (cI, 3, .inl (fun _ => 0))) :: (u.2.2.2.2.2.2.2.2.2.2.2.2.2.2.2.2.2.2.2.1, .inl (cI, 3, .inl (fun _ => 0))) :: (u.2.2.2.2.2.2.2.2.2.2.2.2.2.2.2.2.2.2.2.2, .inl (cI, 20, .inl (fun _ => 0))) :: []))) (va_A [(m0, .inr (8, (.int 0 :: .int 0 :: .int 0 :: .int 0 :: .int 0 :: .int 0 :: .int 0 :: .int 0 :: .int 0 :: .int 0 :: .null :: .null :: .null :: .null :: .null :: .null :: .null :: .null :: .null :: .null :: .null :: .null :: .null :: .null :: .null :: .null :: .int 0 :: .int 0 :: .int 0 :: .int 0 :: .int 0 :: .null :: .null :: .null :: .null :: .null :: .int 0 :: .int 0 :: [])))] hpz)) 21 1985 (va_A [(m0, .inr (8, (.int 0 :: .int 0 :: .int 0 :: .int 0 :: .int 0 :: .int 0 :: .int 0 :: .int 0 :: .int 0 :: .int 0 :: .null :: .null :: .null :: .null :: .null :: .null :: .null :: .null :: .null :: .null :: .null :: .null :: .null :: .null :: .null :: .null :: .int 0 :: .int 0 :: .int 0 :: .int 0 :: .int 0 :: .null :: .null :: .null :: .null :: .null :: .int 0 :: .int 0 :: [])))] hpz) := by
  refine Met.ofW (cc := cX8_init) (maxL := 1) (ret := none) (by decide) rfl ?_
  intro p e s m args below meth c s₁ B hml hv
  obtain ⟨rfl, hsz, hP, hK, hD0, hN, hZ⟩ := hv
  have hx := B.exec
  have hb := B.bytes
  have hr := B.returns
  have hts := atoms_spec (ws := wsX8_init) B.pre
  have hown : s.vm.findClass RX8 = some m.cls := findClass_of_methodNamed B.named
  have hlocks := B.notSynchronized
  have hin : meth.name = "<init>" := (name_of_methodNamed B.named B.method).1
  subst hsz
  have hD := hD0.self (sz := s.heap.size)
  have hA := zA_of hD
  have hl := lv_entry ([.ref m0]) (n := 1) (Nat.le_of_ble_eq_true rfl)
  rw [lg_entry_eq]
  generalize (lg_sl ([.ref m0]) ++ List.replicate (1 - (lg_sl ([.ref m0])).length) Slot.unset).toArray = ls at hl ⊢
  replace hl : lv_has ls 1 [(0, .ref m0)] := hl
  refine zw_begin hP hD (fun H locs hP1 hS => ?_)
  clear hP
  have hP := hP1
  clear hP1
  refine lv_aload_n hx hb dX8_init_0 rfl (lv_at hl 0 rfl) ?_
  refine W.objInit hx hb hown (hts (.methodLink RX8 1 objectInit) (List.mem_of_getElem? (i := 1) rfl)) (hts _ (List.mem_of_getElem? (i := 2) rfl)) (hts _ (List.mem_of_getElem? (i := 3) rfl)) rfl (by rw [hml]; exact hl.1) rfl dX8_init_1 (Nat.le_of_ble_eq_true rfl) (Nat.le_of_ble_eq_true rfl) ?_
  refine W.eq (g2 := F0 m 4 ls []) rfl ?_
  refine lv_aload_n hx hb dX8_init_4 rfl (lv_at hl 0 rfl) ?_
  refine lv_bipush (v := 20) hx hb dX8_init_5 (by decide) ?_
  refine va_put (D := D) (ci := 8) (v := .int 20) (ty := .int) (C := RX8) (T := TX8) (N := 38) hx hb hts hi_X8_init_8 tyX8 tyX8_ok nmX8 hown hK hP hD hS 0 rfl rfl 1 (by decide) (hts (.fieldLink RX8 7 "TheLiningsInItModel" "teeth" "I") (List.mem_of_getElem? (i := 4) rfl)) (fun _ h9 => h9) rfl (tyX8_ok 1 (Nat.le_of_ble_eq_true rfl)) rfl rfl (Nat.le_of_ble_eq_true rfl) dX8_init_7 (fun H locs hP hD hS => ?_)
  have h9R := zRe (ws' := [(m0, .inr (8, (.int 0 :: .int 20 :: .int 0 :: .int 0 :: .int 0 :: .int 0 :: .int 0 :: .int 0 :: .int 0 :: .int 0 :: .null :: .null :: .null :: .null :: .null :: .null :: .null :: .null :: .null :: .null :: .null :: .null :: .null :: .null :: .null :: .null :: .int 0 :: .int 0 :: .int 0 :: .int 0 :: .int 0 :: .null :: .null :: .null :: .null :: .null :: .int 0 :: .int 0 :: [])))]) hP hD rfl
  clear hP hD
  obtain ⟨hP, hD⟩ := h9R
  refine lv_aload_n hx hb dX8_init_10 rfl (lv_at hl 0 rfl) ?_
  refine lv_bipush (v := 60) hx hb dX8_init_11 (by decide) ?_
  refine va_put (D := D) (ci := 8) (v := .int 60) (ty := .int) (C := RX8) (T := TX8) (N := 38) hx hb hts hi_X8_init_8 tyX8 tyX8_ok nmX8 hown hK hP hD hS 0 rfl rfl 5 (by decide) (hts (.fieldLink RX8 13 "TheLiningsInItModel" "seconds" "I") (List.mem_of_getElem? (i := 5) rfl)) (fun _ h9 => h9) rfl (tyX8_ok 5 (Nat.le_of_ble_eq_true rfl)) rfl rfl (Nat.le_of_ble_eq_true rfl) dX8_init_13 (fun H locs hP hD hS => ?_)
  have h9R := zRe (ws' := [(m0, .inr (8, (.int 0 :: .int 20 :: .int 0 :: .int 0 :: .int 0 :: .int 60 :: .int 0 :: .int 0 :: .int 0 :: .int 0 :: .null :: .null :: .null :: .null :: .null :: .null :: .null :: .null :: .null :: .null :: .null :: .null :: .null :: .null :: .null :: .null :: .int 0 :: .int 0 :: .int 0 :: .int 0 :: .int 0 :: .null :: .null :: .null :: .null :: .null :: .int 0 :: .int 0 :: [])))]) hP hD rfl
  clear hP hD
  obtain ⟨hP, hD⟩ := h9R
  refine lv_aload_n hx hb dX8_init_16 rfl (lv_at hl 0 rfl) ?_
  refine lv_iconst (v := 3) hx hb dX8_init_17 (by decide) ?_
  refine va_put (D := D) (ci := 8) (v := .int 3) (ty := .int) (C := RX8) (T := TX8) (N := 38) hx hb hts hi_X8_init_8 tyX8 tyX8_ok nmX8 hown hK hP hD hS 0 rfl rfl 7 (by decide) (hts (.fieldLink RX8 16 "TheLiningsInItModel" "gap" "I") (List.mem_of_getElem? (i := 6) rfl)) (fun _ h9 => h9) rfl (tyX8_ok 7 (Nat.le_of_ble_eq_true rfl)) rfl rfl (Nat.le_of_ble_eq_true rfl) dX8_init_18 (fun H locs hP hD hS => ?_)
  have h9R := zRe (ws' := [(m0, .inr (8, (.int 0 :: .int 20 :: .int 0 :: .int 0 :: .int 0 :: .int 60 :: .int 0 :: .int 3 :: .int 0 :: .int 0 :: .null :: .null :: .null :: .null :: .null :: .null :: .null :: .null :: .null :: .null :: .null :: .null :: .null :: .null :: .null :: .null :: .int 0 :: .int 0 :: .int 0 :: .int 0 :: .int 0 :: .null :: .null :: .null :: .null :: .null :: .int 0 :: .int 0 :: [])))]) hP hD rfl
  clear hP hD
  obtain ⟨hP, hD⟩ := h9R
  refine lv_aload_n hx hb dX8_init_21 rfl (lv_at hl 0 rfl) ?_
  refine lv_iconst (v := 1) hx hb dX8_init_22 (by decide) ?_
  refine va_put (D := D) (ci := 8) (v := .int 1) (ty := .int) (C := RX8) (T := TX8) (N := 38) hx hb hts hi_X8_init_8 tyX8 tyX8_ok nmX8 hown hK hP hD hS 0 rfl rfl 8 (by decide) (hts (.fieldLink RX8 19 "TheLiningsInItModel" "seed" "I") (List.mem_of_getElem? (i := 7) rfl)) (fun _ h9 => h9) rfl (tyX8_ok 8 (Nat.le_of_ble_eq_true rfl)) rfl rfl (Nat.le_of_ble_eq_true rfl) dX8_init_23 (fun H locs hP hD hS => ?_)
  have h9R := zRe (ws' := [(m0, .inr (8, (.int 0 :: .int 20 :: .int 0 :: .int 0 :: .int 0 :: .int 60 :: .int 0 :: .int 3 :: .int 1 :: .int 0 :: .null :: .null :: .null :: .null :: .null :: .null :: .null :: .null :: .null :: .null :: .null :: .null :: .null :: .null :: .null :: .null :: .int 0 :: .int 0 :: .int 0 :: .int 0 :: .int 0 :: .null :: .null :: .null :: .null :: .null :: .int 0 :: .int 0 :: [])))]) hP hD rfl
  clear hP hD
  obtain ⟨hP, hD⟩ := h9R
  refine lv_aload_n hx hb dX8_init_26 rfl (lv_at hl 0 rfl) ?_
  refine lv_iconst (v := (-1)) hx hb dX8_init_27 (by decide) ?_
  refine va_put (D := D) (ci := 8) (v := .int (-1)) (ty := .int) (C := RX8) (T := TX8) (N := 38) hx hb hts hi_X8_init_8 tyX8 tyX8_ok nmX8 hown hK hP hD hS 0 rfl rfl 9 (by decide) (hts (.fieldLink RX8 22 "TheLiningsInItModel" "fault" "I") (List.mem_of_getElem? (i := 8) rfl)) (fun _ h9 => h9) rfl (tyX8_ok 9 (Nat.le_of_ble_eq_true rfl)) rfl rfl (Nat.le_of_ble_eq_true rfl) dX8_init_28 (fun H locs hP hD hS => ?_)
  have h9R := zRe (ws' := [(m0, .inr (8, (.int 0 :: .int 20 :: .int 0 :: .int 0 :: .int 0 :: .int 60 :: .int 0 :: .int 3 :: .int 1 :: .int (-1) :: .null :: .null :: .null :: .null :: .null :: .null :: .null :: .null :: .null :: .null :: .null :: .null :: .null :: .null :: .null :: .null :: .int 0 :: .int 0 :: .int 0 :: .int 0 :: .int 0 :: .null :: .null :: .null :: .null :: .null :: .int 0 :: .int 0 :: [])))]) hP hD rfl
  clear hP hD
  obtain ⟨hP, hD⟩ := h9R
  refine lv_aload_n hx hb dX8_init_31 rfl (lv_at hl 0 rfl) ?_
  refine lv_bipush (v := 8) hx hb dX8_init_32 (by decide) ?_
  refine va_newa hx hb (atype := .int) (hts _ (List.mem_of_getElem? (i := 9) rfl)) rfl hK hP hD hS hA (N' := 8) (a0 := (8, .inl (fun _ => 0))) (fun _ => rfl) (by decide) (by decide) (Nat.le_of_ble_eq_true rfl) (Nat.le_of_ble_eq_true rfl) (Nat.le_of_ble_eq_true rfl) dX8_init_34 (fun q_1 cA H hK1 hP hD hS => ?_)
  obtain rfl : cI = cA := zk_eqI (k := 0) hK rfl hK1
  have h9R := zRe (ws' := [(m0, .inr (8, (.int 0 :: .int 20 :: .int 0 :: .int 0 :: .int 0 :: .int 60 :: .int 0 :: .int 3 :: .int 1 :: .int (-1) :: .null :: .null :: .null :: .null :: .null :: .null :: .null :: .null :: .null :: .null :: .null :: .null :: .null :: .null :: .null :: .null :: .int 0 :: .int 0 :: .int 0 :: .int 0 :: .int 0 :: .null :: .null :: .null :: .null :: .null :: .int 0 :: .int 0 :: []))), (q_1, .inl (cI, 8, .inl (fun _ => 0)))]) hP hD rfl
  clear hP hD
  obtain ⟨hP, hD⟩ := h9R
  refine W.widen (k := 1) (n := 8) (Nat.le_of_ble_eq_true rfl) (Nat.le_of_ble_eq_true rfl) ?_
  refine va_putF (D := D) (ci := 8) (v := .ref q_1) (ty := (.array .int)) (C := RX8) (T := TX8) (N := 38) hx hb hts hi_X8_init_8 tyX8 tyX8_ok nmX8 hown hK hP hD hS 0 rfl rfl 10 (by decide) (hts (.fieldLink RX8 25 "TheLiningsInItModel" "refused" "[I") (List.mem_of_getElem? (i := 10) rfl)) (fun _ h9 => h9) rfl hin rfl (tyX8_ok 10 (Nat.le_of_ble_eq_true rfl)) rfl rfl (Nat.le_of_ble_eq_true rfl) dX8_init_36 (fun H locs hP hD hS => ?_)
  have h9R := zRe (ws' := [(m0, .inr (8, (.int 0 :: .int 20 :: .int 0 :: .int 0 :: .int 0 :: .int 60 :: .int 0 :: .int 3 :: .int 1 :: .int (-1) :: .ref q_1 :: .null :: .null :: .null :: .null :: .null :: .null :: .null :: .null :: .null :: .null :: .null :: .null :: .null :: .null :: .null :: .int 0 :: .int 0 :: .int 0 :: .int 0 :: .int 0 :: .null :: .null :: .null :: .null :: .null :: .int 0 :: .int 0 :: []))), (q_1, .inl (cI, 8, .inl (fun _ => 0)))]) hP hD rfl
  clear hP hD
  obtain ⟨hP, hD⟩ := h9R
  refine lv_aload_n hx hb dX8_init_39 rfl (lv_at hl 0 rfl) ?_
  refine lv_bipush (v := 8) hx hb dX8_init_40 (by decide) ?_
  refine va_newa hx hb (atype := .int) (hts _ (List.mem_of_getElem? (i := 9) rfl)) rfl hK hP hD hS hA (N' := 8) (a0 := (8, .inl (fun _ => 0))) (fun _ => rfl) (by decide) (by decide) (Nat.le_of_ble_eq_true rfl) (Nat.le_of_ble_eq_true rfl) (Nat.le_of_ble_eq_true rfl) dX8_init_42 (fun q_2 cA H hK1 hP hD hS => ?_)
  obtain rfl : cI = cA := zk_eqI (k := 0) hK rfl hK1
  have h9R := zRe (ws' := [(m0, .inr (8, (.int 0 :: .int 20 :: .int 0 :: .int 0 :: .int 0 :: .int 60 :: .int 0 :: .int 3 :: .int 1 :: .int (-1) :: .ref q_1 :: .null :: .null :: .null :: .null :: .null :: .null :: .null :: .null :: .null :: .null :: .null :: .null :: .null :: .null :: .null :: .int 0 :: .int 0 :: .int 0 :: .int 0 :: .int 0 :: .null :: .null :: .null :: .null :: .null :: .int 0 :: .int 0 :: []))), (q_1, .inl (cI, 8, .inl (fun _ => 0))), (q_2, .inl (cI, 8, .inl (fun _ => 0)))]) hP hD rfl
  clear hP hD
  obtain ⟨hP, hD⟩ := h9R
  refine W.widen (k := 2) (n := 16) (Nat.le_of_ble_eq_true rfl) (Nat.le_of_ble_eq_true rfl) ?_
  refine va_putF (D := D) (ci := 8) (v := .ref q_2) (ty := (.array .int)) (C := RX8) (T := TX8) (N := 38) hx hb hts hi_X8_init_8 tyX8 tyX8_ok nmX8 hown hK hP hD hS 0 rfl rfl 11 (by decide) (hts (.fieldLink RX8 29 "TheLiningsInItModel" "kind" "[I") (List.mem_of_getElem? (i := 11) rfl)) (fun _ h9 => h9) rfl hin rfl (tyX8_ok 11 (Nat.le_of_ble_eq_true rfl)) rfl rfl (Nat.le_of_ble_eq_true rfl) dX8_init_44 (fun H locs hP hD hS => ?_)
  have h9R := zRe (ws' := [(m0, .inr (8, (.int 0 :: .int 20 :: .int 0 :: .int 0 :: .int 0 :: .int 60 :: .int 0 :: .int 3 :: .int 1 :: .int (-1) :: .ref q_1 :: .ref q_2 :: .null :: .null :: .null :: .null :: .null :: .null :: .null :: .null :: .null :: .null :: .null :: .null :: .null :: .null :: .int 0 :: .int 0 :: .int 0 :: .int 0 :: .int 0 :: .null :: .null :: .null :: .null :: .null :: .int 0 :: .int 0 :: []))), (q_1, .inl (cI, 8, .inl (fun _ => 0))), (q_2, .inl (cI, 8, .inl (fun _ => 0)))]) hP hD rfl
  clear hP hD
  obtain ⟨hP, hD⟩ := h9R
  refine lv_aload_n hx hb dX8_init_47 rfl (lv_at hl 0 rfl) ?_
  refine lv_bipush (v := 8) hx hb dX8_init_48 (by decide) ?_
  refine va_newa hx hb (atype := .int) (hts _ (List.mem_of_getElem? (i := 9) rfl)) rfl hK hP hD hS hA (N' := 8) (a0 := (8, .inl (fun _ => 0))) (fun _ => rfl) (by decide) (by decide) (Nat.le_of_ble_eq_true rfl) (Nat.le_of_ble_eq_true rfl) (Nat.le_of_ble_eq_true rfl) dX8_init_50 (fun q_3 cA H hK1 hP hD hS => ?_)
  obtain rfl : cI = cA := zk_eqI (k := 0) hK rfl hK1
  have h9R := zRe (ws' := [(m0, .inr (8, (.int 0 :: .int 20 :: .int 0 :: .int 0 :: .int 0 :: .int 60 :: .int 0 :: .int 3 :: .int 1 :: .int (-1) :: .ref q_1 :: .ref q_2 :: .null :: .null :: .null :: .null :: .null :: .null :: .null :: .null :: .null :: .null :: .null :: .null :: .null :: .null :: .int 0 :: .int 0 :: .int 0 :: .int 0 :: .int 0 :: .null :: .null :: .null :: .null :: .null :: .int 0 :: .int 0 :: []))), (q_1, .inl (cI, 8, .inl (fun _ => 0))), (q_2, .inl (cI, 8, .inl (fun _ => 0))), (q_3, .inl (cI, 8, .inl (fun _ => 0)))]) hP hD rfl
  clear hP hD
  obtain ⟨hP, hD⟩ := h9R
  refine W.widen (k := 3) (n := 24) (Nat.le_of_ble_eq_true rfl) (Nat.le_of_ble_eq_true rfl) ?_
  refine va_putF (D := D) (ci := 8) (v := .ref q_3) (ty := (.array .int)) (C := RX8) (T := TX8) (N := 38) hx hb hts hi_X8_init_8 tyX8 tyX8_ok nmX8 hown hK hP hD hS 0 rfl rfl 12 (by decide) (hts (.fieldLink RX8 32 "TheLiningsInItModel" "part" "[I") (List.mem_of_getElem? (i := 12) rfl)) (fun _ h9 => h9) rfl hin rfl (tyX8_ok 12 (Nat.le_of_ble_eq_true rfl)) rfl rfl (Nat.le_of_ble_eq_true rfl) dX8_init_52 (fun H locs hP hD hS => ?_)
  have h9R := zRe (ws' := [(m0, .inr (8, (.int 0 :: .int 20 :: .int 0 :: .int 0 :: .int 0 :: .int 60 :: .int 0 :: .int 3 :: .int 1 :: .int (-1) :: .ref q_1 :: .ref q_2 :: .ref q_3 :: .null :: .null :: .null :: .null :: .null :: .null :: .null :: .null :: .null :: .null :: .null :: .null :: .null :: .int 0 :: .int 0 :: .int 0 :: .int 0 :: .int 0 :: .null :: .null :: .null :: .null :: .null :: .int 0 :: .int 0 :: []))), (q_1, .inl (cI, 8, .inl (fun _ => 0))), (q_2, .inl (cI, 8, .inl (fun _ => 0))), (q_3, .inl (cI, 8, .inl (fun _ => 0)))]) hP hD rfl
  clear hP hD
  obtain ⟨hP, hD⟩ := h9R
  refine lv_aload_n hx hb dX8_init_55 rfl (lv_at hl 0 rfl) ?_
  refine lv_bipush (v := 8) hx hb dX8_init_56 (by decide) ?_
  refine va_newa hx hb (atype := .int) (hts _ (List.mem_of_getElem? (i := 9) rfl)) rfl hK hP hD hS hA (N' := 8) (a0 := (8, .inl (fun _ => 0))) (fun _ => rfl) (by decide) (by decide) (Nat.le_of_ble_eq_true rfl) (Nat.le_of_ble_eq_true rfl) (Nat.le_of_ble_eq_true rfl) dX8_init_58 (fun q_4 cA H hK1 hP hD hS => ?_)
  obtain rfl : cI = cA := zk_eqI (k := 0) hK rfl hK1
  have h9R := zRe (ws' := [(m0, .inr (8, (.int 0 :: .int 20 :: .int 0 :: .int 0 :: .int 0 :: .int 60 :: .int 0 :: .int 3 :: .int 1 :: .int (-1) :: .ref q_1 :: .ref q_2 :: .ref q_3 :: .null :: .null :: .null :: .null :: .null :: .null :: .null :: .null :: .null :: .null :: .null :: .null :: .null :: .int 0 :: .int 0 :: .int 0 :: .int 0 :: .int 0 :: .null :: .null :: .null :: .null :: .null :: .int 0 :: .int 0 :: []))), (q_1, .inl (cI, 8, .inl (fun _ => 0))), (q_2, .inl (cI, 8, .inl (fun _ => 0))), (q_3, .inl (cI, 8, .inl (fun _ => 0))), (q_4, .inl (cI, 8, .inl (fun _ => 0)))]) hP hD rfl
  clear hP hD
  obtain ⟨hP, hD⟩ := h9R
  refine W.widen (k := 4) (n := 32) (Nat.le_of_ble_eq_true rfl) (Nat.le_of_ble_eq_true rfl) ?_
  refine va_putF (D := D) (ci := 8) (v := .ref q_4) (ty := (.array .int)) (C := RX8) (T := TX8) (N := 38) hx hb hts hi_X8_init_8 tyX8 tyX8_ok nmX8 hown hK hP hD hS 0 rfl rfl 13 (by decide) (hts (.fieldLink RX8 35 "TheLiningsInItModel" "takes" "[I") (List.mem_of_getElem? (i := 13) rfl)) (fun _ h9 => h9) rfl hin rfl (tyX8_ok 13 (Nat.le_of_ble_eq_true rfl)) rfl rfl (Nat.le_of_ble_eq_true rfl) dX8_init_60 (fun H locs hP hD hS => ?_)
  have h9R := zRe (ws' := [(m0, .inr (8, (.int 0 :: .int 20 :: .int 0 :: .int 0 :: .int 0 :: .int 60 :: .int 0 :: .int 3 :: .int 1 :: .int (-1) :: .ref q_1 :: .ref q_2 :: .ref q_3 :: .ref q_4 :: .null :: .null :: .null :: .null :: .null :: .null :: .null :: .null :: .null :: .null :: .null :: .null :: .int 0 :: .int 0 :: .int 0 :: .int 0 :: .int 0 :: .null :: .null :: .null :: .null :: .null :: .int 0 :: .int 0 :: []))), (q_1, .inl (cI, 8, .inl (fun _ => 0))), (q_2, .inl (cI, 8, .inl (fun _ => 0))), (q_3, .inl (cI, 8, .inl (fun _ => 0))), (q_4, .inl (cI, 8, .inl (fun _ => 0)))]) hP hD rfl
  clear hP hD
  obtain ⟨hP, hD⟩ := h9R
  refine lv_aload_n hx hb dX8_init_63 rfl (lv_at hl 0 rfl) ?_
  refine lv_bipush (v := 40) hx hb dX8_init_64 (by decide) ?_
  refine va_newa hx hb (atype := .int) (hts _ (List.mem_of_getElem? (i := 9) rfl)) rfl hK hP hD hS hA (N' := 40) (a0 := (40, .inl (fun _ => 0))) (fun _ => rfl) (by decide) (by decide) (Nat.le_of_ble_eq_true rfl) (Nat.le_of_ble_eq_true rfl) (Nat.le_of_ble_eq_true rfl) dX8_init_66 (fun q_5 cA H hK1 hP hD hS => ?_)
  obtain rfl : cI = cA := zk_eqI (k := 0) hK rfl hK1
  have h9R := zRe (ws' := [(m0, .inr (8, (.int 0 :: .int 20 :: .int 0 :: .int 0 :: .int 0 :: .int 60 :: .int 0 :: .int 3 :: .int 1 :: .int (-1) :: .ref q_1 :: .ref q_2 :: .ref q_3 :: .ref q_4 :: .null :: .null :: .null :: .null :: .null :: .null :: .null :: .null :: .null :: .null :: .null :: .null :: .int 0 :: .int 0 :: .int 0 :: .int 0 :: .int 0 :: .null :: .null :: .null :: .null :: .null :: .int 0 :: .int 0 :: []))), (q_1, .inl (cI, 8, .inl (fun _ => 0))), (q_2, .inl (cI, 8, .inl (fun _ => 0))), (q_3, .inl (cI, 8, .inl (fun _ => 0))), (q_4, .inl (cI, 8, .inl (fun _ => 0))), (q_5, .inl (cI, 40, .inl (fun _ => 0)))]) hP hD rfl
  clear hP hD
  obtain ⟨hP, hD⟩ := h9R
  refine W.widen (k := 5) (n := 72) (Nat.le_of_ble_eq_true rfl) (Nat.le_of_ble_eq_true rfl) ?_
  refine va_putF (D := D) (ci := 8) (v := .ref q_5) (ty := (.array .int)) (C := RX8) (T := TX8) (N := 38) hx hb hts hi_X8_init_8 tyX8 tyX8_ok nmX8 hown hK hP hD hS 0 rfl rfl 14 (by decide) (hts (.fieldLink RX8 38 "TheLiningsInItModel" "lacks" "[I") (List.mem_of_getElem? (i := 14) rfl)) (fun _ h9 => h9) rfl hin rfl (tyX8_ok 14 (Nat.le_of_ble_eq_true rfl)) rfl rfl (Nat.le_of_ble_eq_true rfl) dX8_init_68 (fun H locs hP hD hS => ?_)
  have h9R := zRe (ws' := [(m0, .inr (8, (.int 0 :: .int 20 :: .int 0 :: .int 0 :: .int 0 :: .int 60 :: .int 0 :: .int 3 :: .int 1 :: .int (-1) :: .ref q_1 :: .ref q_2 :: .ref q_3 :: .ref q_4 :: .ref q_5 :: .null :: .null :: .null :: .null :: .null :: .null :: .null :: .null :: .null :: .null :: .null :: .int 0 :: .int 0 :: .int 0 :: .int 0 :: .int 0 :: .null :: .null :: .null :: .null :: .null :: .int 0 :: .int 0 :: []))), (q_1, .inl (cI, 8, .inl (fun _ => 0))), (q_2, .inl (cI, 8, .inl (fun _ => 0))), (q_3, .inl (cI, 8, .inl (fun _ => 0))), (q_4, .inl (cI, 8, .inl (fun _ => 0))), (q_5, .inl (cI, 40, .inl (fun _ => 0)))]) hP hD rfl
  clear hP hD
  obtain ⟨hP, hD⟩ := h9R
  refine lv_aload_n hx hb dX8_init_71 rfl (lv_at hl 0 rfl) ?_
  refine lv_bipush (v := 40) hx hb dX8_init_72 (by decide) ?_
  refine va_newa hx hb (atype := .int) (hts _ (List.mem_of_getElem? (i := 9) rfl)) rfl hK hP hD hS hA (N' := 40) (a0 := (40, .inl (fun _ => 0))) (fun _ => rfl) (by decide) (by decide) (Nat.le_of_ble_eq_true rfl) (Nat.le_of_ble_eq_true rfl) (Nat.le_of_ble_eq_true rfl) dX8_init_74 (fun q_6 cA H hK1 hP hD hS => ?_)
  obtain rfl : cI = cA := zk_eqI (k := 0) hK rfl hK1
  have h9R := zRe (ws' := [(m0, .inr (8, (.int 0 :: .int 20 :: .int 0 :: .int 0 :: .int 0 :: .int 60 :: .int 0 :: .int 3 :: .int 1 :: .int (-1) :: .ref q_1 :: .ref q_2 :: .ref q_3 :: .ref q_4 :: .ref q_5 :: .null :: .null :: .null :: .null :: .null :: .null :: .null :: .null :: .null :: .null :: .null :: .int 0 :: .int 0 :: .int 0 :: .int 0 :: .int 0 :: .null :: .null :: .null :: .null :: .null :: .int 0 :: .int 0 :: []))), (q_1, .inl (cI, 8, .inl (fun _ => 0))), (q_2, .inl (cI, 8, .inl (fun _ => 0))), (q_3, .inl (cI, 8, .inl (fun _ => 0))), (q_4, .inl (cI, 8, .inl (fun _ => 0))), (q_5, .inl (cI, 40, .inl (fun _ => 0))), (q_6, .inl (cI, 40, .inl (fun _ => 0)))]) hP hD rfl
  clear hP hD
  obtain ⟨hP, hD⟩ := h9R
  refine W.widen (k := 6) (n := 112) (Nat.le_of_ble_eq_true rfl) (Nat.le_of_ble_eq_true rfl) ?_
  refine va_putF (D := D) (ci := 8) (v := .ref q_6) (ty := (.array .int)) (C := RX8) (T := TX8) (N := 38) hx hb hts hi_X8_init_8 tyX8 tyX8_ok nmX8 hown hK hP hD hS 0 rfl rfl 15 (by decide) (hts (.fieldLink RX8 41 "TheLiningsInItModel" "slack" "[I") (List.mem_of_getElem? (i := 15) rfl)) (fun _ h9 => h9) rfl hin rfl (tyX8_ok 15 (Nat.le_of_ble_eq_true rfl)) rfl rfl (Nat.le_of_ble_eq_true rfl) dX8_init_76 (fun H locs hP hD hS => ?_)
  have h9R := zRe (ws' := [(m0, .inr (8, (.int 0 :: .int 20 :: .int 0 :: .int 0 :: .int 0 :: .int 60 :: .int 0 :: .int 3 :: .int 1 :: .int (-1) :: .ref q_1 :: .ref q_2 :: .ref q_3 :: .ref q_4 :: .ref q_5 :: .ref q_6 :: .null :: .null :: .null :: .null :: .null :: .null :: .null :: .null :: .null :: .null :: .int 0 :: .int 0 :: .int 0 :: .int 0 :: .int 0 :: .null :: .null :: .null :: .null :: .null :: .int 0 :: .int 0 :: []))), (q_1, .inl (cI, 8, .inl (fun _ => 0))), (q_2, .inl (cI, 8, .inl (fun _ => 0))), (q_3, .inl (cI, 8, .inl (fun _ => 0))), (q_4, .inl (cI, 8, .inl (fun _ => 0))), (q_5, .inl (cI, 40, .inl (fun _ => 0))), (q_6, .inl (cI, 40, .inl (fun _ => 0)))]) hP hD rfl
  clear hP hD
  obtain ⟨hP, hD⟩ := h9R
  refine lv_aload_n hx hb dX8_init_79 rfl (lv_at hl 0 rfl) ?_
  refine lv_iconst (v := 3) hx hb dX8_init_80 (by decide) ?_
  refine va_newa hx hb (atype := .int) (hts _ (List.mem_of_getElem? (i := 9) rfl)) rfl hK hP hD hS hA (N' := 3) (a0 := (3, .inl (fun _ => 0))) (fun _ => rfl) (by decide) (by decide) (Nat.le_of_ble_eq_true rfl) (Nat.le_of_ble_eq_true rfl) (Nat.le_of_ble_eq_true rfl) dX8_init_81 (fun q_7 cA H hK1 hP hD hS => ?_)
  obtain rfl : cI = cA := zk_eqI (k := 0) hK rfl hK1
  have h9R := zRe (ws' := [(m0, .inr (8, (.int 0 :: .int 20 :: .int 0 :: .int 0 :: .int 0 :: .int 60 :: .int 0 :: .int 3 :: .int 1 :: .int (-1) :: .ref q_1 :: .ref q_2 :: .ref q_3 :: .ref q_4 :: .ref q_5 :: .ref q_6 :: .null :: .null :: .null :: .null :: .null :: .null :: .null :: .null :: .null :: .null :: .int 0 :: .int 0 :: .int 0 :: .int 0 :: .int 0 :: .null :: .null :: .null :: .null :: .null :: .int 0 :: .int 0 :: []))), (q_1, .inl (cI, 8, .inl (fun _ => 0))), (q_2, .inl (cI, 8, .inl (fun _ => 0))), (q_3, .inl (cI, 8, .inl (fun _ => 0))), (q_4, .inl (cI, 8, .inl (fun _ => 0))), (q_5, .inl (cI, 40, .inl (fun _ => 0))), (q_6, .inl (cI, 40, .inl (fun _ => 0))), (q_7, .inl (cI, 3, .inl (fun _ => 0)))]) hP hD rfl
  clear hP hD
  obtain ⟨hP, hD⟩ := h9R
  refine W.widen (k := 7) (n := 115) (Nat.le_of_ble_eq_true rfl) (Nat.le_of_ble_eq_true rfl) ?_
  refine lv_dup hx hb dX8_init_83 rfl ?_
  refine lv_iconst (v := 0) hx hb dX8_init_84 (by decide) ?_
  refine lv_iconst (v := 5) hx hb dX8_init_85 (by decide) ?_
  refine va_iast hx hb hK hP hD hS 7 0 rfl rfl (zf_in (by decide) (by decide)) dX8_init_86 (fun H locs hP hD hS => ?_)
  rw [zL3k_0] at hP hD
  have h9R := zRe (ws' := [(m0, .inr (8, (.int 0 :: .int 20 :: .int 0 :: .int 0 :: .int 0 :: .int 60 :: .int 0 :: .int 3 :: .int 1 :: .int (-1) :: .ref q_1 :: .ref q_2 :: .ref q_3 :: .ref q_4 :: .ref q_5 :: .ref q_6 :: .null :: .null :: .null :: .null :: .null :: .null :: .null :: .null :: .null :: .null :: .int 0 :: .int 0 :: .int 0 :: .int 0 :: .int 0 :: .null :: .null :: .null :: .null :: .null :: .int 0 :: .int 0 :: []))), (q_1, .inl (cI, 8, .inl (fun _ => 0))), (q_2, .inl (cI, 8, .inl (fun _ => 0))), (q_3, .inl (cI, 8, .inl (fun _ => 0))), (q_4, .inl (cI, 8, .inl (fun _ => 0))), (q_5, .inl (cI, 40, .inl (fun _ => 0))), (q_6, .inl (cI, 40, .inl (fun _ => 0))), (q_7, .inl (cI, 3, .inl (zL3 5 0 0)))]) hP hD rfl
  clear hP hD
  obtain ⟨hP, hD⟩ := h9R
  refine lv_dup hx hb dX8_init_87 rfl ?_
  refine lv_iconst (v := 1) hx hb dX8_init_88 (by decide) ?_
  refine lv_bipush (v := 10) hx hb dX8_init_89 (by decide) ?_
  refine va_iast hx hb hK hP hD hS 7 0 rfl rfl (zf_in (by decide) (by decide)) dX8_init_91 (fun H locs hP hD hS => ?_)
  rw [zL3_1] at hP hD
  have h9R := zRe (ws' := [(m0, .inr (8, (.int 0 :: .int 20 :: .int 0 :: .int 0 :: .int 0 :: .int 60 :: .int 0 :: .int 3 :: .int 1 :: .int (-1) :: .ref q_1 :: .ref q_2 :: .ref q_3 :: .ref q_4 :: .ref q_5 :: .ref q_6 :: .null :: .null :: .null :: .null :: .null :: .null :: .null :: .null :: .null :: .null :: .int 0 :: .int 0 :: .int 0 :: .int 0 :: .int 0 :: .null :: .null :: .null :: .null :: .null :: .int 0 :: .int 0 :: []))), (q_1, .inl (cI, 8, .inl (fun _ => 0))), (q_2, .inl (cI, 8, .inl (fun _ => 0))), (q_3, .inl (cI, 8, .inl (fun _ => 0))), (q_4, .inl (cI, 8, .inl (fun _ => 0))), (q_5, .inl (cI, 40, .inl (fun _ => 0))), (q_6, .inl (cI, 40, .inl (fun _ => 0))), (q_7, .inl (cI, 3, .inl (zL3 5 10 0)))]) hP hD rfl
  clear hP hD
  obtain ⟨hP, hD⟩ := h9R
  refine lv_dup hx hb dX8_init_92 rfl ?_
  refine lv_iconst (v := 2) hx hb dX8_init_93 (by decide) ?_
  refine lv_bipush (v := 50) hx hb dX8_init_94 (by decide) ?_
  refine va_iast hx hb hK hP hD hS 7 0 rfl rfl (zf_in (by decide) (by decide)) dX8_init_96 (fun H locs hP hD hS => ?_)
  rw [zL3_2] at hP hD
  have h9R := zRe (ws' := [(m0, .inr (8, (.int 0 :: .int 20 :: .int 0 :: .int 0 :: .int 0 :: .int 60 :: .int 0 :: .int 3 :: .int 1 :: .int (-1) :: .ref q_1 :: .ref q_2 :: .ref q_3 :: .ref q_4 :: .ref q_5 :: .ref q_6 :: .null :: .null :: .null :: .null :: .null :: .null :: .null :: .null :: .null :: .null :: .int 0 :: .int 0 :: .int 0 :: .int 0 :: .int 0 :: .null :: .null :: .null :: .null :: .null :: .int 0 :: .int 0 :: []))), (q_1, .inl (cI, 8, .inl (fun _ => 0))), (q_2, .inl (cI, 8, .inl (fun _ => 0))), (q_3, .inl (cI, 8, .inl (fun _ => 0))), (q_4, .inl (cI, 8, .inl (fun _ => 0))), (q_5, .inl (cI, 40, .inl (fun _ => 0))), (q_6, .inl (cI, 40, .inl (fun _ => 0))), (q_7, .inl (cI, 3, .inl (zL3 5 10 50)))]) hP hD rfl
  clear hP hD
  obtain ⟨hP, hD⟩ := h9R
  refine va_putF (D := D) (ci := 8) (v := .ref q_7) (ty := (.array .int)) (C := RX8) (T := TX8) (N := 38) hx hb hts hi_X8_init_8 tyX8 tyX8_ok nmX8 hown hK hP hD hS 0 rfl rfl 16 (by decide) (hts (.fieldLink RX8 44 "TheLiningsInItModel" "cost" "[I") (List.mem_of_getElem? (i := 16) rfl)) (fun _ h9 => h9) rfl hin rfl (tyX8_ok 16 (Nat.le_of_ble_eq_true rfl)) rfl rfl (Nat.le_of_ble_eq_true rfl) dX8_init_97 (fun H locs hP hD hS => ?_)
  have h9R := zRe (ws' := [(m0, .inr (8, (.int 0 :: .int 20 :: .int 0 :: .int 0 :: .int 0 :: .int 60 :: .int 0 :: .int 3 :: .int 1 :: .int (-1) :: .ref q_1 :: .ref q_2 :: .ref q_3 :: .ref q_4 :: .ref q_5 :: .ref q_6 :: .ref q_7 :: .null :: .null :: .null :: .null :: .null :: .null :: .null :: .null :: .null :: .int 0 :: .int 0 :: .int 0 :: .int 0 :: .int 0 :: .null :: .null :: .null :: .null :: .null :: .int 0 :: .int 0 :: []))), (q_1, .inl (cI, 8, .inl (fun _ => 0))), (q_2, .inl (cI, 8, .inl (fun _ => 0))), (q_3, .inl (cI, 8, .inl (fun _ => 0))), (q_4, .inl (cI, 8, .inl (fun _ => 0))), (q_5, .inl (cI, 40, .inl (fun _ => 0))), (q_6, .inl (cI, 40, .inl (fun _ => 0))), (q_7, .inl (cI, 3, .inl (zL3 5 10 50)))]) hP hD rfl
  clear hP hD
  obtain ⟨hP, hD⟩ := h9R
  refine lv_aload_n hx hb dX8_init_100 rfl (lv_at hl 0 rfl) ?_
  refine lv_bipush (v := 8) hx hb dX8_init_101 (by decide) ?_
  refine va_newa hx hb (atype := .int) (hts _ (List.mem_of_getElem? (i := 9) rfl)) rfl hK hP hD hS hA (N' := 8) (a0 := (8, .inl (fun _ => 0))) (fun _ => rfl) (by decide) (by decide) (Nat.le_of_ble_eq_true rfl) (Nat.le_of_ble_eq_true rfl) (Nat.le_of_ble_eq_true rfl) dX8_init_103 (fun q_8 cA H hK1 hP hD hS => ?_)
  obtain rfl : cI = cA := zk_eqI (k := 0) hK rfl hK1
  have h9R := zRe (ws' := [(m0, .inr (8, (.int 0 :: .int 20 :: .int 0 :: .int 0 :: .int 0 :: .int 60 :: .int 0 :: .int 3 :: .int 1 :: .int (-1) :: .ref q_1 :: .ref q_2 :: .ref q_3 :: .ref q_4 :: .ref q_5 :: .ref q_6 :: .ref q_7 :: .null :: .null :: .null :: .null :: .null :: .null :: .null :: .null :: .null :: .int 0 :: .int 0 :: .int 0 :: .int 0 :: .int 0 :: .null :: .null :: .null :: .null :: .null :: .int 0 :: .int 0 :: []))), (q_1, .inl (cI, 8, .inl (fun _ => 0))), (q_2, .inl (cI, 8, .inl (fun _ => 0))), (q_3, .inl (cI, 8, .inl (fun _ => 0))), (q_4, .inl (cI, 8, .inl (fun _ => 0))), (q_5, .inl (cI, 40, .inl (fun _ => 0))), (q_6, .inl (cI, 40, .inl (fun _ => 0))), (q_7, .inl (cI, 3, .inl (zL3 5 10 50))), (q_8, .inl (cI, 8, .inl (fun _ => 0)))]) hP hD rfl
  clear hP hD
  obtain ⟨hP, hD⟩ := h9R
  refine W.widen (k := 8) (n := 123) (Nat.le_of_ble_eq_true rfl) (Nat.le_of_ble_eq_true rfl) ?_
  refine va_putF (D := D) (ci := 8) (v := .ref q_8) (ty := (.array .int)) (C := RX8) (T := TX8) (N := 38) hx hb hts hi_X8_init_8 tyX8 tyX8_ok nmX8 hown hK hP hD hS 0 rfl rfl 17 (by decide) (hts (.fieldLink RX8 47 "TheLiningsInItModel" "held" "[I") (List.mem_of_getElem? (i := 17) rfl)) (fun _ h9 => h9) rfl hin rfl (tyX8_ok 17 (Nat.le_of_ble_eq_true rfl)) rfl rfl (Nat.le_of_ble_eq_true rfl) dX8_init_105 (fun H locs hP hD hS => ?_)
  have h9R := zRe (ws' := [(m0, .inr (8, (.int 0 :: .int 20 :: .int 0 :: .int 0 :: .int 0 :: .int 60 :: .int 0 :: .int 3 :: .int 1 :: .int (-1) :: .ref q_1 :: .ref q_2 :: .ref q_3 :: .ref q_4 :: .ref q_5 :: .ref q_6 :: .ref q_7 :: .ref q_8 :: .null :: .null :: .null :: .null :: .null :: .null :: .null :: .null :: .int 0 :: .int 0 :: .int 0 :: .int 0 :: .int 0 :: .null :: .null :: .null :: .null :: .null :: .int 0 :: .int 0 :: []))), (q_1, .inl (cI, 8, .inl (fun _ => 0))), (q_2, .inl (cI, 8, .inl (fun _ => 0))), (q_3, .inl (cI, 8, .inl (fun _ => 0))), (q_4, .inl (cI, 8, .inl (fun _ => 0))), (q_5, .inl (cI, 40, .inl (fun _ => 0))), (q_6, .inl (cI, 40, .inl (fun _ => 0))), (q_7, .inl (cI, 3, .inl (zL3 5 10 50))), (q_8, .inl (cI, 8, .inl (fun _ => 0)))]) hP hD rfl
  clear hP hD
  obtain ⟨hP, hD⟩ := h9R
  refine lv_aload_n hx hb dX8_init_108 rfl (lv_at hl 0 rfl) ?_
  refine lv_bipush (v := 8) hx hb dX8_init_109 (by decide) ?_
  refine va_newa hx hb (atype := .int) (hts _ (List.mem_of_getElem? (i := 9) rfl)) rfl hK hP hD hS hA (N' := 8) (a0 := (8, .inl (fun _ => 0))) (fun _ => rfl) (by decide) (by decide) (Nat.le_of_ble_eq_true rfl) (Nat.le_of_ble_eq_true rfl) (Nat.le_of_ble_eq_true rfl) dX8_init_111 (fun q_9 cA H hK1 hP hD hS => ?_)
  obtain rfl : cI = cA := zk_eqI (k := 0) hK rfl hK1
  have h9R := zRe (ws' := [(m0, .inr (8, (.int 0 :: .int 20 :: .int 0 :: .int 0 :: .int 0 :: .int 60 :: .int 0 :: .int 3 :: .int 1 :: .int (-1) :: .ref q_1 :: .ref q_2 :: .ref q_3 :: .ref q_4 :: .ref q_5 :: .ref q_6 :: .ref q_7 :: .ref q_8 :: .null :: .null :: .null :: .null :: .null :: .null :: .null :: .null :: .int 0 :: .int 0 :: .int 0 :: .int 0 :: .int 0 :: .null :: .null :: .null :: .null :: .null :: .int 0 :: .int 0 :: []))), (q_1, .inl (cI, 8, .inl (fun _ => 0))), (q_2, .inl (cI, 8, .inl (fun _ => 0))), (q_3, .inl (cI, 8, .inl (fun _ => 0))), (q_4, .inl (cI, 8, .inl (fun _ => 0))), (q_5, .inl (cI, 40, .inl (fun _ => 0))), (q_6, .inl (cI, 40, .inl (fun _ => 0))), (q_7, .inl (cI, 3, .inl (zL3 5 10 50))), (q_8, .inl (cI, 8, .inl (fun _ => 0))), (q_9, .inl (cI, 8, .inl (fun _ => 0)))]) hP hD rfl
  clear hP hD
  obtain ⟨hP, hD⟩ := h9R
  refine W.widen (k := 9) (n := 131) (Nat.le_of_ble_eq_true rfl) (Nat.le_of_ble_eq_true rfl) ?_
  refine va_putF (D := D) (ci := 8) (v := .ref q_9) (ty := (.array .int)) (C := RX8) (T := TX8) (N := 38) hx hb hts hi_X8_init_8 tyX8 tyX8_ok nmX8 hown hK hP hD hS 0 rfl rfl 18 (by decide) (hts (.fieldLink RX8 50 "TheLiningsInItModel" "sort" "[I") (List.mem_of_getElem? (i := 18) rfl)) (fun _ h9 => h9) rfl hin rfl (tyX8_ok 18 (Nat.le_of_ble_eq_true rfl)) rfl rfl (Nat.le_of_ble_eq_true rfl) dX8_init_113 (fun H locs hP hD hS => ?_)
  have h9R := zRe (ws' := [(m0, .inr (8, (.int 0 :: .int 20 :: .int 0 :: .int 0 :: .int 0 :: .int 60 :: .int 0 :: .int 3 :: .int 1 :: .int (-1) :: .ref q_1 :: .ref q_2 :: .ref q_3 :: .ref q_4 :: .ref q_5 :: .ref q_6 :: .ref q_7 :: .ref q_8 :: .ref q_9 :: .null :: .null :: .null :: .null :: .null :: .null :: .null :: .int 0 :: .int 0 :: .int 0 :: .int 0 :: .int 0 :: .null :: .null :: .null :: .null :: .null :: .int 0 :: .int 0 :: []))), (q_1, .inl (cI, 8, .inl (fun _ => 0))), (q_2, .inl (cI, 8, .inl (fun _ => 0))), (q_3, .inl (cI, 8, .inl (fun _ => 0))), (q_4, .inl (cI, 8, .inl (fun _ => 0))), (q_5, .inl (cI, 40, .inl (fun _ => 0))), (q_6, .inl (cI, 40, .inl (fun _ => 0))), (q_7, .inl (cI, 3, .inl (zL3 5 10 50))), (q_8, .inl (cI, 8, .inl (fun _ => 0))), (q_9, .inl (cI, 8, .inl (fun _ => 0)))]) hP hD rfl
  clear hP hD
  obtain ⟨hP, hD⟩ := h9R
  refine lv_aload_n hx hb dX8_init_116 rfl (lv_at hl 0 rfl) ?_
  refine lv_bipush (v := 8) hx hb dX8_init_117 (by decide) ?_
  refine va_newa hx hb (atype := .int) (hts _ (List.mem_of_getElem? (i := 9) rfl)) rfl hK hP hD hS hA (N' := 8) (a0 := (8, .inl (fun _ => 0))) (fun _ => rfl) (by decide) (by decide) (Nat.le_of_ble_eq_true rfl) (Nat.le_of_ble_eq_true rfl) (Nat.le_of_ble_eq_true rfl) dX8_init_119 (fun q_10 cA H hK1 hP hD hS => ?_)
  obtain rfl : cI = cA := zk_eqI (k := 0) hK rfl hK1
  have h9R := zRe (ws' := [(m0, .inr (8, (.int 0 :: .int 20 :: .int 0 :: .int 0 :: .int 0 :: .int 60 :: .int 0 :: .int 3 :: .int 1 :: .int (-1) :: .ref q_1 :: .ref q_2 :: .ref q_3 :: .ref q_4 :: .ref q_5 :: .ref q_6 :: .ref q_7 :: .ref q_8 :: .ref q_9 :: .null :: .null :: .null :: .null :: .null :: .null :: .null :: .int 0 :: .int 0 :: .int 0 :: .int 0 :: .int 0 :: .null :: .null :: .null :: .null :: .null :: .int 0 :: .int 0 :: []))), (q_1, .inl (cI, 8, .inl (fun _ => 0))), (q_2, .inl (cI, 8, .inl (fun _ => 0))), (q_3, .inl (cI, 8, .inl (fun _ => 0))), (q_4, .inl (cI, 8, .inl (fun _ => 0))), (q_5, .inl (cI, 40, .inl (fun _ => 0))), (q_6, .inl (cI, 40, .inl (fun _ => 0))), (q_7, .inl (cI, 3, .inl (zL3 5 10 50))), (q_8, .inl (cI, 8, .inl (fun _ => 0))), (q_9, .inl (cI, 8, .inl (fun _ => 0))), (q_10, .inl (cI, 8, .inl (fun _ => 0)))]) hP hD rfl
  clear hP hD
  obtain ⟨hP, hD⟩ := h9R
  refine W.widen (k := 10) (n := 139) (Nat.le_of_ble_eq_true rfl) (Nat.le_of_ble_eq_true rfl) ?_
  refine va_putF (D := D) (ci := 8) (v := .ref q_10) (ty := (.array .int)) (C := RX8) (T := TX8) (N := 38) hx hb hts hi_X8_init_8 tyX8 tyX8_ok nmX8 hown hK hP hD hS 0 rfl rfl 19 (by decide) (hts (.fieldLink RX8 53 "TheLiningsInItModel" "size" "[I") (List.mem_of_getElem? (i := 19) rfl)) (fun _ h9 => h9) rfl hin rfl (tyX8_ok 19 (Nat.le_of_ble_eq_true rfl)) rfl rfl (Nat.le_of_ble_eq_true rfl) dX8_init_121 (fun H locs hP hD hS => ?_)
  have h9R := zRe (ws' := [(m0, .inr (8, (.int 0 :: .int 20 :: .int 0 :: .int 0 :: .int 0 :: .int 60 :: .int 0 :: .int 3 :: .int 1 :: .int (-1) :: .ref q_1 :: .ref q_2 :: .ref q_3 :: .ref q_4 :: .ref q_5 :: .ref q_6 :: .ref q_7 :: .ref q_8 :: .ref q_9 :: .ref q_10 :: .null :: .null :: .null :: .null :: .null :: .null :: .int 0 :: .int 0 :: .int 0 :: .int 0 :: .int 0 :: .null :: .null :: .null :: .null :: .null :: .int 0 :: .int 0 :: []))), (q_1, .inl (cI, 8, .inl (fun _ => 0))), (q_2, .inl (cI, 8, .inl (fun _ => 0))), (q_3, .inl (cI, 8, .inl (fun _ => 0))), (q_4, .inl (cI, 8, .inl (fun _ => 0))), (q_5, .inl (cI, 40, .inl (fun _ => 0))), (q_6, .inl (cI, 40, .inl (fun _ => 0))), (q_7, .inl (cI, 3, .inl (zL3 5 10 50))), (q_8, .inl (cI, 8, .inl (fun _ => 0))), (q_9, .inl (cI, 8, .inl (fun _ => 0))), (q_10, .inl (cI, 8, .inl (fun _ => 0)))]) hP hD rfl
  clear hP hD
  obtain ⟨hP, hD⟩ := h9R
  refine lv_aload_n hx hb dX8_init_124 rfl (lv_at hl 0 rfl) ?_
  refine lv_bipush (v := 8) hx hb dX8_init_125 (by decide) ?_
  refine va_newa hx hb (atype := .int) (hts _ (List.mem_of_getElem? (i := 9) rfl)) rfl hK hP hD hS hA (N' := 8) (a0 := (8, .inl (fun _ => 0))) (fun _ => rfl) (by decide) (by decide) (Nat.le_of_ble_eq_true rfl) (Nat.le_of_ble_eq_true rfl) (Nat.le_of_ble_eq_true rfl) dX8_init_127 (fun q_11 cA H hK1 hP hD hS => ?_)
  obtain rfl : cI = cA := zk_eqI (k := 0) hK rfl hK1
  have h9R := zRe (ws' := [(m0, .inr (8, (.int 0 :: .int 20 :: .int 0 :: .int 0 :: .int 0 :: .int 60 :: .int 0 :: .int 3 :: .int 1 :: .int (-1) :: .ref q_1 :: .ref q_2 :: .ref q_3 :: .ref q_4 :: .ref q_5 :: .ref q_6 :: .ref q_7 :: .ref q_8 :: .ref q_9 :: .ref q_10 :: .null :: .null :: .null :: .null :: .null :: .null :: .int 0 :: .int 0 :: .int 0 :: .int 0 :: .int 0 :: .null :: .null :: .null :: .null :: .null :: .int 0 :: .int 0 :: []))), (q_1, .inl (cI, 8, .inl (fun _ => 0))), (q_2, .inl (cI, 8, .inl (fun _ => 0))), (q_3, .inl (cI, 8, .inl (fun _ => 0))), (q_4, .inl (cI, 8, .inl (fun _ => 0))), (q_5, .inl (cI, 40, .inl (fun _ => 0))), (q_6, .inl (cI, 40, .inl (fun _ => 0))), (q_7, .inl (cI, 3, .inl (zL3 5 10 50))), (q_8, .inl (cI, 8, .inl (fun _ => 0))), (q_9, .inl (cI, 8, .inl (fun _ => 0))), (q_10, .inl (cI, 8, .inl (fun _ => 0))), (q_11, .inl (cI, 8, .inl (fun _ => 0)))]) hP hD rfl
  clear hP hD
  obtain ⟨hP, hD⟩ := h9R
  refine W.widen (k := 11) (n := 147) (Nat.le_of_ble_eq_true rfl) (Nat.le_of_ble_eq_true rfl) ?_
  refine va_putF (D := D) (ci := 8) (v := .ref q_11) (ty := (.array .int)) (C := RX8) (T := TX8) (N := 38) hx hb hts hi_X8_init_8 tyX8 tyX8_ok nmX8 hown hK hP hD hS 0 rfl rfl 20 (by decide) (hts (.fieldLink RX8 56 "TheLiningsInItModel" "shown" "[I") (List.mem_of_getElem? (i := 20) rfl)) (fun _ h9 => h9) rfl hin rfl (tyX8_ok 20 (Nat.le_of_ble_eq_true rfl)) rfl rfl (Nat.le_of_ble_eq_true rfl) dX8_init_129 (fun H locs hP hD hS => ?_)
  have h9R := zRe (ws' := [(m0, .inr (8, (.int 0 :: .int 20 :: .int 0 :: .int 0 :: .int 0 :: .int 60 :: .int 0 :: .int 3 :: .int 1 :: .int (-1) :: .ref q_1 :: .ref q_2 :: .ref q_3 :: .ref q_4 :: .ref q_5 :: .ref q_6 :: .ref q_7 :: .ref q_8 :: .ref q_9 :: .ref q_10 :: .ref q_11 :: .null :: .null :: .null :: .null :: .null :: .int 0 :: .int 0 :: .int 0 :: .int 0 :: .int 0 :: .null :: .null :: .null :: .null :: .null :: .int 0 :: .int 0 :: []))), (q_1, .inl (cI, 8, .inl (fun _ => 0))), (q_2, .inl (cI, 8, .inl (fun _ => 0))), (q_3, .inl (cI, 8, .inl (fun _ => 0))), (q_4, .inl (cI, 8, .inl (fun _ => 0))), (q_5, .inl (cI, 40, .inl (fun _ => 0))), (q_6, .inl (cI, 40, .inl (fun _ => 0))), (q_7, .inl (cI, 3, .inl (zL3 5 10 50))), (q_8, .inl (cI, 8, .inl (fun _ => 0))), (q_9, .inl (cI, 8, .inl (fun _ => 0))), (q_10, .inl (cI, 8, .inl (fun _ => 0))), (q_11, .inl (cI, 8, .inl (fun _ => 0)))]) hP hD rfl
  clear hP hD
  obtain ⟨hP, hD⟩ := h9R
  refine lv_aload_n hx hb dX8_init_132 rfl (lv_at hl 0 rfl) ?_
  refine lv_sipush (v := 1280) hx hb dX8_init_133 (by decide) ?_
  refine va_newa hx hb (atype := .long) (hts _ (List.mem_of_getElem? (i := 21) rfl)) rfl hK hP hD hS hA (N' := 1280) (a0 := (1280, .inr (.inl (fun _ => 0)))) (fun _ => rfl) (by decide) (by decide) (Nat.le_of_ble_eq_true rfl) (Nat.le_of_ble_eq_true rfl) (Nat.le_of_ble_eq_true rfl) dX8_init_136 (fun q_12 cA H hK1 hP hD hS => ?_)
  obtain rfl : cJ = cA := zk_eqJ (k := 1) hK rfl hK1
  have h9R := zRe (ws' := [(m0, .inr (8, (.int 0 :: .int 20 :: .int 0 :: .int 0 :: .int 0 :: .int 60 :: .int 0 :: .int 3 :: .int 1 :: .int (-1) :: .ref q_1 :: .ref q_2 :: .ref q_3 :: .ref q_4 :: .ref q_5 :: .ref q_6 :: .ref q_7 :: .ref q_8 :: .ref q_9 :: .ref q_10 :: .ref q_11 :: .null :: .null :: .null :: .null :: .null :: .int 0 :: .int 0 :: .int 0 :: .int 0 :: .int 0 :: .null :: .null :: .null :: .null :: .null :: .int 0 :: .int 0 :: []))), (q_1, .inl (cI, 8, .inl (fun _ => 0))), (q_2, .inl (cI, 8, .inl (fun _ => 0))), (q_3, .inl (cI, 8, .inl (fun _ => 0))), (q_4, .inl (cI, 8, .inl (fun _ => 0))), (q_5, .inl (cI, 40, .inl (fun _ => 0))), (q_6, .inl (cI, 40, .inl (fun _ => 0))), (q_7, .inl (cI, 3, .inl (zL3 5 10 50))), (q_8, .inl (cI, 8, .inl (fun _ => 0))), (q_9, .inl (cI, 8, .inl (fun _ => 0))), (q_10, .inl (cI, 8, .inl (fun _ => 0))), (q_11, .inl (cI, 8, .inl (fun _ => 0))), (q_12, .inl (cJ, 1280, .inr (.inl (fun _ => 0))))]) hP hD rfl
  clear hP hD
  obtain ⟨hP, hD⟩ := h9R
  refine W.widen (k := 12) (n := 1427) (Nat.le_of_ble_eq_true rfl) (Nat.le_of_ble_eq_true rfl) ?_
  refine va_putF (D := D) (ci := 8) (v := .ref q_12) (ty := (.array .long)) (C := RX8) (T := TX8) (N := 38) hx hb hts hi_X8_init_8 tyX8 tyX8_ok nmX8 hown hK hP hD hS 0 rfl rfl 21 (by decide) (hts (.fieldLink RX8 59 "TheLiningsInItModel" "cells" "[J") (List.mem_of_getElem? (i := 22) rfl)) (fun _ h9 => h9) rfl hin rfl (tyX8_ok 21 (Nat.le_of_ble_eq_true rfl)) rfl rfl (Nat.le_of_ble_eq_true rfl) dX8_init_138 (fun H locs hP hD hS => ?_)
  have h9R := zRe (ws' := [(m0, .inr (8, (.int 0 :: .int 20 :: .int 0 :: .int 0 :: .int 0 :: .int 60 :: .int 0 :: .int 3 :: .int 1 :: .int (-1) :: .ref q_1 :: .ref q_2 :: .ref q_3 :: .ref q_4 :: .ref q_5 :: .ref q_6 :: .ref q_7 :: .ref q_8 :: .ref q_9 :: .ref q_10 :: .ref q_11 :: .ref q_12 :: .null :: .null :: .null :: .null :: .int 0 :: .int 0 :: .int 0 :: .int 0 :: .int 0 :: .null :: .null :: .null :: .null :: .null :: .int 0 :: .int 0 :: []))), (q_1, .inl (cI, 8, .inl (fun _ => 0))), (q_2, .inl (cI, 8, .inl (fun _ => 0))), (q_3, .inl (cI, 8, .inl (fun _ => 0))), (q_4, .inl (cI, 8, .inl (fun _ => 0))), (q_5, .inl (cI, 40, .inl (fun _ => 0))), (q_6, .inl (cI, 40, .inl (fun _ => 0))), (q_7, .inl (cI, 3, .inl (zL3 5 10 50))), (q_8, .inl (cI, 8, .inl (fun _ => 0))), (q_9, .inl (cI, 8, .inl (fun _ => 0))), (q_10, .inl (cI, 8, .inl (fun _ => 0))), (q_11, .inl (cI, 8, .inl (fun _ => 0))), (q_12, .inl (cJ, 1280, .inr (.inl (fun _ => 0))))]) hP hD rfl
  clear hP hD
  obtain ⟨hP, hD⟩ := h9R
  refine lv_aload_n hx hb dX8_init_141 rfl (lv_at hl 0 rfl) ?_
  refine lv_sipush (v := 160) hx hb dX8_init_142 (by decide) ?_
  refine va_newa hx hb (atype := .long) (hts _ (List.mem_of_getElem? (i := 21) rfl)) rfl hK hP hD hS hA (N' := 160) (a0 := (160, .inr (.inl (fun _ => 0)))) (fun _ => rfl) (by decide) (by decide) (Nat.le_of_ble_eq_true rfl) (Nat.le_of_ble_eq_true rfl) (Nat.le_of_ble_eq_true rfl) dX8_init_145 (fun q_13 cA H hK1 hP hD hS => ?_)
  obtain rfl : cJ = cA := zk_eqJ (k := 1) hK rfl hK1
  have h9R := zRe (ws' := [(m0, .inr (8, (.int 0 :: .int 20 :: .int 0 :: .int 0 :: .int 0 :: .int 60 :: .int 0 :: .int 3 :: .int 1 :: .int (-1) :: .ref q_1 :: .ref q_2 :: .ref q_3 :: .ref q_4 :: .ref q_5 :: .ref q_6 :: .ref q_7 :: .ref q_8 :: .ref q_9 :: .ref q_10 :: .ref q_11 :: .ref q_12 :: .null :: .null :: .null :: .null :: .int 0 :: .int 0 :: .int 0 :: .int 0 :: .int 0 :: .null :: .null :: .null :: .null :: .null :: .int 0 :: .int 0 :: []))), (q_1, .inl (cI, 8, .inl (fun _ => 0))), (q_2, .inl (cI, 8, .inl (fun _ => 0))), (q_3, .inl (cI, 8, .inl (fun _ => 0))), (q_4, .inl (cI, 8, .inl (fun _ => 0))), (q_5, .inl (cI, 40, .inl (fun _ => 0))), (q_6, .inl (cI, 40, .inl (fun _ => 0))), (q_7, .inl (cI, 3, .inl (zL3 5 10 50))), (q_8, .inl (cI, 8, .inl (fun _ => 0))), (q_9, .inl (cI, 8, .inl (fun _ => 0))), (q_10, .inl (cI, 8, .inl (fun _ => 0))), (q_11, .inl (cI, 8, .inl (fun _ => 0))), (q_12, .inl (cJ, 1280, .inr (.inl (fun _ => 0)))), (q_13, .inl (cJ, 160, .inr (.inl (fun _ => 0))))]) hP hD rfl
  clear hP hD
  obtain ⟨hP, hD⟩ := h9R
  refine W.widen (k := 13) (n := 1587) (Nat.le_of_ble_eq_true rfl) (Nat.le_of_ble_eq_true rfl) ?_
  refine va_putF (D := D) (ci := 8) (v := .ref q_13) (ty := (.array .long)) (C := RX8) (T := TX8) (N := 38) hx hb hts hi_X8_init_8 tyX8 tyX8_ok nmX8 hown hK hP hD hS 0 rfl rfl 22 (by decide) (hts (.fieldLink RX8 63 "TheLiningsInItModel" "carried" "[J") (List.mem_of_getElem? (i := 23) rfl)) (fun _ h9 => h9) rfl hin rfl (tyX8_ok 22 (Nat.le_of_ble_eq_true rfl)) rfl rfl (Nat.le_of_ble_eq_true rfl) dX8_init_147 (fun H locs hP hD hS => ?_)
  have h9R := zRe (ws' := [(m0, .inr (8, (.int 0 :: .int 20 :: .int 0 :: .int 0 :: .int 0 :: .int 60 :: .int 0 :: .int 3 :: .int 1 :: .int (-1) :: .ref q_1 :: .ref q_2 :: .ref q_3 :: .ref q_4 :: .ref q_5 :: .ref q_6 :: .ref q_7 :: .ref q_8 :: .ref q_9 :: .ref q_10 :: .ref q_11 :: .ref q_12 :: .ref q_13 :: .null :: .null :: .null :: .int 0 :: .int 0 :: .int 0 :: .int 0 :: .int 0 :: .null :: .null :: .null :: .null :: .null :: .int 0 :: .int 0 :: []))), (q_1, .inl (cI, 8, .inl (fun _ => 0))), (q_2, .inl (cI, 8, .inl (fun _ => 0))), (q_3, .inl (cI, 8, .inl (fun _ => 0))), (q_4, .inl (cI, 8, .inl (fun _ => 0))), (q_5, .inl (cI, 40, .inl (fun _ => 0))), (q_6, .inl (cI, 40, .inl (fun _ => 0))), (q_7, .inl (cI, 3, .inl (zL3 5 10 50))), (q_8, .inl (cI, 8, .inl (fun _ => 0))), (q_9, .inl (cI, 8, .inl (fun _ => 0))), (q_10, .inl (cI, 8, .inl (fun _ => 0))), (q_11, .inl (cI, 8, .inl (fun _ => 0))), (q_12, .inl (cJ, 1280, .inr (.inl (fun _ => 0)))), (q_13, .inl (cJ, 160, .inr (.inl (fun _ => 0))))]) hP hD rfl
  clear hP hD
  obtain ⟨hP, hD⟩ := h9R
  refine lv_aload_n hx hb dX8_init_150 rfl (lv_at hl 0 rfl) ?_
  refine lv_bipush (v := 64) hx hb dX8_init_151 (by decide) ?_
  refine va_newa hx hb (atype := .int) (hts _ (List.mem_of_getElem? (i := 9) rfl)) rfl hK hP hD hS hA (N' := 64) (a0 := (64, .inl (fun _ => 0))) (fun _ => rfl) (by decide) (by decide) (Nat.le_of_ble_eq_true rfl) (Nat.le_of_ble_eq_true rfl) (Nat.le_of_ble_eq_true rfl) dX8_init_153 (fun q_14 cA H hK1 hP hD hS => ?_)
  obtain rfl : cI = cA := zk_eqI (k := 0) hK rfl hK1
  have h9R := zRe (ws' := [(m0, .inr (8, (.int 0 :: .int 20 :: .int 0 :: .int 0 :: .int 0 :: .int 60 :: .int 0 :: .int 3 :: .int 1 :: .int (-1) :: .ref q_1 :: .ref q_2 :: .ref q_3 :: .ref q_4 :: .ref q_5 :: .ref q_6 :: .ref q_7 :: .ref q_8 :: .ref q_9 :: .ref q_10 :: .ref q_11 :: .ref q_12 :: .ref q_13 :: .null :: .null :: .null :: .int 0 :: .int 0 :: .int 0 :: .int 0 :: .int 0 :: .null :: .null :: .null :: .null :: .null :: .int 0 :: .int 0 :: []))), (q_1, .inl (cI, 8, .inl (fun _ => 0))), (q_2, .inl (cI, 8, .inl (fun _ => 0))), (q_3, .inl (cI, 8, .inl (fun _ => 0))), (q_4, .inl (cI, 8, .inl (fun _ => 0))), (q_5, .inl (cI, 40, .inl (fun _ => 0))), (q_6, .inl (cI, 40, .inl (fun _ => 0))), (q_7, .inl (cI, 3, .inl (zL3 5 10 50))), (q_8, .inl (cI, 8, .inl (fun _ => 0))), (q_9, .inl (cI, 8, .inl (fun _ => 0))), (q_10, .inl (cI, 8, .inl (fun _ => 0))), (q_11, .inl (cI, 8, .inl (fun _ => 0))), (q_12, .inl (cJ, 1280, .inr (.inl (fun _ => 0)))), (q_13, .inl (cJ, 160, .inr (.inl (fun _ => 0)))), (q_14, .inl (cI, 64, .inl (fun _ => 0)))]) hP hD rfl
  clear hP hD
  obtain ⟨hP, hD⟩ := h9R
  refine W.widen (k := 14) (n := 1651) (Nat.le_of_ble_eq_true rfl) (Nat.le_of_ble_eq_true rfl) ?_
  refine lv_dup hx hb dX8_init_155 rfl ?_
  refine lv_iconst (v := 0) hx hb dX8_init_156 (by decide) ?_
  refine lv_bipush (v := 116) hx hb dX8_init_157 (by decide) ?_
  refine va_iast hx hb hK hP hD hS 14 0 rfl rfl (zf_in (by decide) (by decide)) dX8_init_159 (fun H locs hP hD hS => ?_)
  refine lv_dup hx hb dX8_init_160 rfl ?_
  refine lv_iconst (v := 1) hx hb dX8_init_161 (by decide) ?_
  refine lv_bipush (v := 101) hx hb dX8_init_162 (by decide) ?_
  refine va_iast hx hb hK hP hD hS 14 0 rfl rfl (zf_in (by decide) (by decide)) dX8_init_164 (fun H locs hP hD hS => ?_)
  refine lv_dup hx hb dX8_init_165 rfl ?_
  refine lv_iconst (v := 2) hx hb dX8_init_166 (by decide) ?_
  refine lv_bipush (v := 101) hx hb dX8_init_167 (by decide) ?_
  refine va_iast hx hb hK hP hD hS 14 0 rfl rfl (zf_in (by decide) (by decide)) dX8_init_169 (fun H locs hP hD hS => ?_)
  refine lv_dup hx hb dX8_init_170 rfl ?_
  refine lv_iconst (v := 3) hx hb dX8_init_171 (by decide) ?_
  refine lv_bipush (v := 116) hx hb dX8_init_172 (by decide) ?_
  refine va_iast hx hb hK hP hD hS 14 0 rfl rfl (zf_in (by decide) (by decide)) dX8_init_174 (fun H locs hP hD hS => ?_)
  refine lv_dup hx hb dX8_init_175 rfl ?_
  refine lv_iconst (v := 4) hx hb dX8_init_176 (by decide) ?_
  refine lv_bipush (v := 104) hx hb dX8_init_177 (by decide) ?_
  refine va_iast hx hb hK hP hD hS 14 0 rfl rfl (zf_in (by decide) (by decide)) dX8_init_179 (fun H locs hP hD hS => ?_)
  refine lv_dup hx hb dX8_init_180 rfl ?_
  refine lv_iconst (v := 5) hx hb dX8_init_181 (by decide) ?_
  refine lv_bipush (v := 32) hx hb dX8_init_182 (by decide) ?_
  refine va_iast hx hb hK hP hD hS 14 0 rfl rfl (zf_in (by decide) (by decide)) dX8_init_184 (fun H locs hP hD hS => ?_)
  have h9R := zRe (ws' := [(m0, .inr (8, (.int 0 :: .int 20 :: .int 0 :: .int 0 :: .int 0 :: .int 60 :: .int 0 :: .int 3 :: .int 1 :: .int (-1) :: .ref q_1 :: .ref q_2 :: .ref q_3 :: .ref q_4 :: .ref q_5 :: .ref q_6 :: .ref q_7 :: .ref q_8 :: .ref q_9 :: .ref q_10 :: .ref q_11 :: .ref q_12 :: .ref q_13 :: .null :: .null :: .null :: .int 0 :: .int 0 :: .int 0 :: .int 0 :: .int 0 :: .null :: .null :: .null :: .null :: .null :: .int 0 :: .int 0 :: []))), (q_1, .inl (cI, 8, .inl (fun _ => 0))), (q_2, .inl (cI, 8, .inl (fun _ => 0))), (q_3, .inl (cI, 8, .inl (fun _ => 0))), (q_4, .inl (cI, 8, .inl (fun _ => 0))), (q_5, .inl (cI, 40, .inl (fun _ => 0))), (q_6, .inl (cI, 40, .inl (fun _ => 0))), (q_7, .inl (cI, 3, .inl (zL3 5 10 50))), (q_8, .inl (cI, 8, .inl (fun _ => 0))), (q_9, .inl (cI, 8, .inl (fun _ => 0))), (q_10, .inl (cI, 8, .inl (fun _ => 0))), (q_11, .inl (cI, 8, .inl (fun _ => 0))), (q_12, .inl (cJ, 1280, .inr (.inl (fun _ => 0)))), (q_13, .inl (cJ, 160, .inr (.inl (fun _ => 0)))), (q_14, .inl (cI, 64, .inl (upd (upd (upd (upd (upd (upd (fun _ => 0) (0 : Int32).toNatClampNeg 116) (1 : Int32).toNatClampNeg 101) (2 : Int32).toNatClampNeg 101) (3 : Int32).toNatClampNeg 116) (4 : Int32).toNatClampNeg 104) (5 : Int32).toNatClampNeg 32)))]) hP hD rfl
  clear hP hD
  obtain ⟨hP, hD⟩ := h9R
  refine lv_dup hx hb dX8_init_185 rfl ?_
  refine lv_bipush (v := 6) hx hb dX8_init_186 (by decide) ?_
  refine lv_iconst (v := 0) hx hb dX8_init_188 (by decide) ?_
  refine va_iast hx hb hK hP hD hS 14 0 rfl rfl (zf_in (by decide) (by decide)) dX8_init_189 (fun H locs hP hD hS => ?_)
  refine lv_dup hx hb dX8_init_190 rfl ?_
  refine lv_bipush (v := 7) hx hb dX8_init_191 (by decide) ?_
  refine lv_bipush (v := 108) hx hb dX8_init_193 (by decide) ?_
  refine va_iast hx hb hK hP hD hS 14 0 rfl rfl (zf_in (by decide) (by decide)) dX8_init_195 (fun H locs hP hD hS => ?_)
  refine lv_dup hx hb dX8_init_196 rfl ?_
  refine lv_bipush (v := 8) hx hb dX8_init_197 (by decide) ?_
  refine lv_bipush (v := 97) hx hb dX8_init_199 (by decide) ?_
  refine va_iast hx hb hK hP hD hS 14 0 rfl rfl (zf_in (by decide) (by decide)) dX8_init_201 (fun H locs hP hD hS => ?_)
  refine lv_dup hx hb dX8_init_202 rfl ?_
  refine lv_bipush (v := 9) hx hb dX8_init_203 (by decide) ?_
  refine lv_bipush (v := 99) hx hb dX8_init_205 (by decide) ?_
  refine va_iast hx hb hK hP hD hS 14 0 rfl rfl (zf_in (by decide) (by decide)) dX8_init_207 (fun H locs hP hD hS => ?_)
  refine lv_dup hx hb dX8_init_208 rfl ?_
  refine lv_bipush (v := 10) hx hb dX8_init_209 (by decide) ?_
  refine lv_bipush (v := 107) hx hb dX8_init_211 (by decide) ?_
  refine va_iast hx hb hK hP hD hS 14 0 rfl rfl (zf_in (by decide) (by decide)) dX8_init_213 (fun H locs hP hD hS => ?_)
  refine lv_dup hx hb dX8_init_214 rfl ?_
  refine lv_bipush (v := 11) hx hb dX8_init_215 (by decide) ?_
  refine lv_bipush (v := 32) hx hb dX8_init_217 (by decide) ?_
  refine va_iast hx hb hK hP hD hS 14 0 rfl rfl (zf_in (by decide) (by decide)) dX8_init_219 (fun H locs hP hD hS => ?_)
  have h9R := zRe (ws' := [(m0, .inr (8, (.int 0 :: .int 20 :: .int 0 :: .int 0 :: .int 0 :: .int 60 :: .int 0 :: .int 3 :: .int 1 :: .int (-1) :: .ref q_1 :: .ref q_2 :: .ref q_3 :: .ref q_4 :: .ref q_5 :: .ref q_6 :: .ref q_7 :: .ref q_8 :: .ref q_9 :: .ref q_10 :: .ref q_11 :: .ref q_12 :: .ref q_13 :: .null :: .null :: .null :: .int 0 :: .int 0 :: .int 0 :: .int 0 :: .int 0 :: .null :: .null :: .null :: .null :: .null :: .int 0 :: .int 0 :: []))), (q_1, .inl (cI, 8, .inl (fun _ => 0))), (q_2, .inl (cI, 8, .inl (fun _ => 0))), (q_3, .inl (cI, 8, .inl (fun _ => 0))), (q_4, .inl (cI, 8, .inl (fun _ => 0))), (q_5, .inl (cI, 40, .inl (fun _ => 0))), (q_6, .inl (cI, 40, .inl (fun _ => 0))), (q_7, .inl (cI, 3, .inl (zL3 5 10 50))), (q_8, .inl (cI, 8, .inl (fun _ => 0))), (q_9, .inl (cI, 8, .inl (fun _ => 0))), (q_10, .inl (cI, 8, .inl (fun _ => 0))), (q_11, .inl (cI, 8, .inl (fun _ => 0))), (q_12, .inl (cJ, 1280, .inr (.inl (fun _ => 0)))), (q_13, .inl (cJ, 160, .inr (.inl (fun _ => 0)))), (q_14, .inl (cI, 64, .inl (upd (upd (upd (upd (upd (upd (upd (upd (upd (upd (upd (upd (fun _ => 0) (0 : Int32).toNatClampNeg 116) (1 : Int32).toNatClampNeg 101) (2 : Int32).toNatClampNeg 101) (3 : Int32).toNatClampNeg 116) (4 : Int32).toNatClampNeg 104) (5 : Int32).toNatClampNeg 32) (6 : Int32).toNatClampNeg 0) (7 : Int32).toNatClampNeg 108) (8 : Int32).toNatClampNeg 97) (9 : Int32).toNatClampNeg 99) (10 : Int32).toNatClampNeg 107) (11 : Int32).toNatClampNeg 32)))]) hP hD rfl
  clear hP hD
  obtain ⟨hP, hD⟩ := h9R
  refine lv_dup hx hb dX8_init_220 rfl ?_
  refine lv_bipush (v := 12) hx hb dX8_init_221 (by decide) ?_
  refine lv_iconst (v := 0) hx hb dX8_init_223 (by decide) ?_
  refine va_iast hx hb hK hP hD hS 14 0 rfl rfl (zf_in (by decide) (by decide)) dX8_init_224 (fun H locs hP hD hS => ?_)
  refine lv_dup hx hb dX8_init_225 rfl ?_
  refine lv_bipush (v := 13) hx hb dX8_init_226 (by decide) ?_
  refine lv_bipush (v := 115) hx hb dX8_init_228 (by decide) ?_
  refine va_iast hx hb hK hP hD hS 14 0 rfl rfl (zf_in (by decide) (by decide)) dX8_init_230 (fun H locs hP hD hS => ?_)
  refine lv_dup hx hb dX8_init_231 rfl ?_
  refine lv_bipush (v := 14) hx hb dX8_init_232 (by decide) ?_
  refine lv_bipush (v := 108) hx hb dX8_init_234 (by decide) ?_
  refine va_iast hx hb hK hP hD hS 14 0 rfl rfl (zf_in (by decide) (by decide)) dX8_init_236 (fun H locs hP hD hS => ?_)
  refine lv_dup hx hb dX8_init_237 rfl ?_
  refine lv_bipush (v := 15) hx hb dX8_init_238 (by decide) ?_
  refine lv_bipush (v := 97) hx hb dX8_init_240 (by decide) ?_
  refine va_iast hx hb hK hP hD hS 14 0 rfl rfl (zf_in (by decide) (by decide)) dX8_init_242 (fun H locs hP hD hS => ?_)
  refine lv_dup hx hb dX8_init_243 rfl ?_
  refine lv_bipush (v := 16) hx hb dX8_init_244 (by decide) ?_
  refine lv_bipush (v := 99) hx hb dX8_init_246 (by decide) ?_
  refine va_iast hx hb hK hP hD hS 14 0 rfl rfl (zf_in (by decide) (by decide)) dX8_init_248 (fun H locs hP hD hS => ?_)
  refine lv_dup hx hb dX8_init_249 rfl ?_
  refine lv_bipush (v := 17) hx hb dX8_init_250 (by decide) ?_
  refine lv_bipush (v := 107) hx hb dX8_init_252 (by decide) ?_
  refine va_iast hx hb hK hP hD hS 14 0 rfl rfl (zf_in (by decide) (by decide)) dX8_init_254 (fun H locs hP hD hS => ?_)
  have h9R := zRe (ws' := [(m0, .inr (8, (.int 0 :: .int 20 :: .int 0 :: .int 0 :: .int 0 :: .int 60 :: .int 0 :: .int 3 :: .int 1 :: .int (-1) :: .ref q_1 :: .ref q_2 :: .ref q_3 :: .ref q_4 :: .ref q_5 :: .ref q_6 :: .ref q_7 :: .ref q_8 :: .ref q_9 :: .ref q_10 :: .ref q_11 :: .ref q_12 :: .ref q_13 :: .null :: .null :: .null :: .int 0 :: .int 0 :: .int 0 :: .int 0 :: .int 0 :: .null :: .null :: .null :: .null :: .null :: .int 0 :: .int 0 :: []))), (q_1, .inl (cI, 8, .inl (fun _ => 0))), (q_2, .inl (cI, 8, .inl (fun _ => 0))), (q_3, .inl (cI, 8, .inl (fun _ => 0))), (q_4, .inl (cI, 8, .inl (fun _ => 0))), (q_5, .inl (cI, 40, .inl (fun _ => 0))), (q_6, .inl (cI, 40, .inl (fun _ => 0))), (q_7, .inl (cI, 3, .inl (zL3 5 10 50))), (q_8, .inl (cI, 8, .inl (fun _ => 0))), (q_9, .inl (cI, 8, .inl (fun _ => 0))), (q_10, .inl (cI, 8, .inl (fun _ => 0))), (q_11, .inl (cI, 8, .inl (fun _ => 0))), (q_12, .inl (cJ, 1280, .inr (.inl (fun _ => 0)))), (q_13, .inl (cJ, 160, .inr (.inl (fun _ => 0)))), (q_14, .inl (cI, 64, .inl (upd (upd (upd (upd (upd (upd (upd (upd (upd (upd (upd (upd (upd (upd (upd (upd (upd (upd (fun _ => 0) (0 : Int32).toNatClampNeg 116) (1 : Int32).toNatClampNeg 101) (2 : Int32).toNatClampNeg 101) (3 : Int32).toNatClampNeg 116) (4 : Int32).toNatClampNeg 104) (5 : Int32).toNatClampNeg 32) (6 : Int32).toNatClampNeg 0) (7 : Int32).toNatClampNeg 108) (8 : Int32).toNatClampNeg 97) (9 : Int32).toNatClampNeg 99) (10 : Int32).toNatClampNeg 107) (11 : Int32).toNatClampNeg 32) (12 : Int32).toNatClampNeg 0) (13 : Int32).toNatClampNeg 115) (14 : Int32).toNatClampNeg 108) (15 : Int32).toNatClampNeg 97) (16 : Int32).toNatClampNeg 99) (17 : Int32).toNatClampNeg 107)))]) hP hD rfl
  clear hP hD
  obtain ⟨hP, hD⟩ := h9R
  refine lv_dup hx hb dX8_init_255 rfl ?_
  refine lv_bipush (v := 18) hx hb dX8_init_256 (by decide) ?_
  refine lv_bipush (v := 32) hx hb dX8_init_258 (by decide) ?_
  refine va_iast hx hb hK hP hD hS 14 0 rfl rfl (zf_in (by decide) (by decide)) dX8_init_260 (fun H locs hP hD hS => ?_)
  refine lv_dup hx hb dX8_init_261 rfl ?_
  refine lv_bipush (v := 19) hx hb dX8_init_262 (by decide) ?_
  refine lv_iconst (v := 0) hx hb dX8_init_264 (by decide) ?_
  refine va_iast hx hb hK hP hD hS 14 0 rfl rfl (zf_in (by decide) (by decide)) dX8_init_265 (fun H locs hP hD hS => ?_)
  refine lv_dup hx hb dX8_init_266 rfl ?_
  refine lv_bipush (v := 20) hx hb dX8_init_267 (by decide) ?_
  refine lv_bipush (v := 112) hx hb dX8_init_269 (by decide) ?_
  refine va_iast hx hb hK hP hD hS 14 0 rfl rfl (zf_in (by decide) (by decide)) dX8_init_271 (fun H locs hP hD hS => ?_)
  refine lv_dup hx hb dX8_init_272 rfl ?_
  refine lv_bipush (v := 21) hx hb dX8_init_273 (by decide) ?_
  refine lv_bipush (v := 117) hx hb dX8_init_275 (by decide) ?_
  refine va_iast hx hb hK hP hD hS 14 0 rfl rfl (zf_in (by decide) (by decide)) dX8_init_277 (fun H locs hP hD hS => ?_)
  refine lv_dup hx hb dX8_init_278 rfl ?_
  refine lv_bipush (v := 22) hx hb dX8_init_279 (by decide) ?_
  refine lv_bipush (v := 108) hx hb dX8_init_281 (by decide) ?_
  refine va_iast hx hb hK hP hD hS 14 0 rfl rfl (zf_in (by decide) (by decide)) dX8_init_283 (fun H locs hP hD hS => ?_)
  refine lv_dup hx hb dX8_init_284 rfl ?_
  refine lv_bipush (v := 23) hx hb dX8_init_285 (by decide) ?_
  refine lv_bipush (v := 108) hx hb dX8_init_287 (by decide) ?_
  refine va_iast hx hb hK hP hD hS 14 0 rfl rfl (zf_in (by decide) (by decide)) dX8_init_289 (fun H locs hP hD hS => ?_)
  have h9R := zRe (ws' := [(m0, .inr (8, (.int 0 :: .int 20 :: .int 0 :: .int 0 :: .int 0 :: .int 60 :: .int 0 :: .int 3 :: .int 1 :: .int (-1) :: .ref q_1 :: .ref q_2 :: .ref q_3 :: .ref q_4 :: .ref q_5 :: .ref q_6 :: .ref q_7 :: .ref q_8 :: .ref q_9 :: .ref q_10 :: .ref q_11 :: .ref q_12 :: .ref q_13 :: .null :: .null :: .null :: .int 0 :: .int 0 :: .int 0 :: .int 0 :: .int 0 :: .null :: .null :: .null :: .null :: .null :: .int 0 :: .int 0 :: []))), (q_1, .inl (cI, 8, .inl (fun _ => 0))), (q_2, .inl (cI, 8, .inl (fun _ => 0))), (q_3, .inl (cI, 8, .inl (fun _ => 0))), (q_4, .inl (cI, 8, .inl (fun _ => 0))), (q_5, .inl (cI, 40, .inl (fun _ => 0))), (q_6, .inl (cI, 40, .inl (fun _ => 0))), (q_7, .inl (cI, 3, .inl (zL3 5 10 50))), (q_8, .inl (cI, 8, .inl (fun _ => 0))), (q_9, .inl (cI, 8, .inl (fun _ => 0))), (q_10, .inl (cI, 8, .inl (fun _ => 0))), (q_11, .inl (cI, 8, .inl (fun _ => 0))), (q_12, .inl (cJ, 1280, .inr (.inl (fun _ => 0)))), (q_13, .inl (cJ, 160, .inr (.inl (fun _ => 0)))), (q_14, .inl (cI, 64, .inl (upd (upd (upd (upd (upd (upd (upd (upd (upd (upd (upd (upd (upd (upd (upd (upd (upd (upd (upd (upd (upd (upd (upd (upd (fun _ => 0) (0 : Int32).toNatClampNeg 116) (1 : Int32).toNatClampNeg 101) (2 : Int32).toNatClampNeg 101) (3 : Int32).toNatClampNeg 116) (4 : Int32).toNatClampNeg 104) (5 : Int32).toNatClampNeg 32) (6 : Int32).toNatClampNeg 0) (7 : Int32).toNatClampNeg 108) (8 : Int32).toNatClampNeg 97) (9 : Int32).toNatClampNeg 99) (10 : Int32).toNatClampNeg 107) (11 : Int32).toNatClampNeg 32) (12 : Int32).toNatClampNeg 0) (13 : Int32).toNatClampNeg 115) (14 : Int32).toNatClampNeg 108) (15 : Int32).toNatClampNeg 97) (16 : Int32).toNatClampNeg 99) (17 : Int32).toNatClampNeg 107) (18 : Int32).toNatClampNeg 32) (19 : Int32).toNatClampNeg 0) (20 : Int32).toNatClampNeg 112) (21 : Int32).toNatClampNeg 117) (22 : Int32).toNatClampNeg 108) (23 : Int32).toNatClampNeg 108)))]) hP hD rfl
  clear hP hD
  obtain ⟨hP, hD⟩ := h9R
  refine lv_dup hx hb dX8_init_290 rfl ?_
  refine lv_bipush (v := 24) hx hb dX8_init_291 (by decide) ?_
  refine lv_bipush (v := 32) hx hb dX8_init_293 (by decide) ?_
  refine va_iast hx hb hK hP hD hS 14 0 rfl rfl (zf_in (by decide) (by decide)) dX8_init_295 (fun H locs hP hD hS => ?_)
  refine lv_dup hx hb dX8_init_296 rfl ?_
  refine lv_bipush (v := 25) hx hb dX8_init_297 (by decide) ?_
  refine lv_iconst (v := 0) hx hb dX8_init_299 (by decide) ?_
  refine va_iast hx hb hK hP hD hS 14 0 rfl rfl (zf_in (by decide) (by decide)) dX8_init_300 (fun H locs hP hD hS => ?_)
  refine lv_dup hx hb dX8_init_301 rfl ?_
  refine lv_bipush (v := 26) hx hb dX8_init_302 (by decide) ?_
  refine lv_bipush (v := 100) hx hb dX8_init_304 (by decide) ?_
  refine va_iast hx hb hK hP hD hS 14 0 rfl rfl (zf_in (by decide) (by decide)) dX8_init_306 (fun H locs hP hD hS => ?_)
  refine lv_dup hx hb dX8_init_307 rfl ?_
  refine lv_bipush (v := 27) hx hb dX8_init_308 (by decide) ?_
  refine lv_bipush (v := 101) hx hb dX8_init_310 (by decide) ?_
  refine va_iast hx hb hK hP hD hS 14 0 rfl rfl (zf_in (by decide) (by decide)) dX8_init_312 (fun H locs hP hD hS => ?_)
  refine lv_dup hx hb dX8_init_313 rfl ?_
  refine lv_bipush (v := 28) hx hb dX8_init_314 (by decide) ?_
  refine lv_bipush (v := 112) hx hb dX8_init_316 (by decide) ?_
  refine va_iast hx hb hK hP hD hS 14 0 rfl rfl (zf_in (by decide) (by decide)) dX8_init_318 (fun H locs hP hD hS => ?_)
  refine lv_dup hx hb dX8_init_319 rfl ?_
  refine lv_bipush (v := 29) hx hb dX8_init_320 (by decide) ?_
  refine lv_bipush (v := 116) hx hb dX8_init_322 (by decide) ?_
  refine va_iast hx hb hK hP hD hS 14 0 rfl rfl (zf_in (by decide) (by decide)) dX8_init_324 (fun H locs hP hD hS => ?_)
  have h9R := zRe (ws' := [(m0, .inr (8, (.int 0 :: .int 20 :: .int 0 :: .int 0 :: .int 0 :: .int 60 :: .int 0 :: .int 3 :: .int 1 :: .int (-1) :: .ref q_1 :: .ref q_2 :: .ref q_3 :: .ref q_4 :: .ref q_5 :: .ref q_6 :: .ref q_7 :: .ref q_8 :: .ref q_9 :: .ref q_10 :: .ref q_11 :: .ref q_12 :: .ref q_13 :: .null :: .null :: .null :: .int 0 :: .int 0 :: .int 0 :: .int 0 :: .int 0 :: .null :: .null :: .null :: .null :: .null :: .int 0 :: .int 0 :: []))), (q_1, .inl (cI, 8, .inl (fun _ => 0))), (q_2, .inl (cI, 8, .inl (fun _ => 0))), (q_3, .inl (cI, 8, .inl (fun _ => 0))), (q_4, .inl (cI, 8, .inl (fun _ => 0))), (q_5, .inl (cI, 40, .inl (fun _ => 0))), (q_6, .inl (cI, 40, .inl (fun _ => 0))), (q_7, .inl (cI, 3, .inl (zL3 5 10 50))), (q_8, .inl (cI, 8, .inl (fun _ => 0))), (q_9, .inl (cI, 8, .inl (fun _ => 0))), (q_10, .inl (cI, 8, .inl (fun _ => 0))), (q_11, .inl (cI, 8, .inl (fun _ => 0))), (q_12, .inl (cJ, 1280, .inr (.inl (fun _ => 0)))), (q_13, .inl (cJ, 160, .inr (.inl (fun _ => 0)))), (q_14, .inl (cI, 64, .inl (upd (upd (upd (upd (upd (upd (upd (upd (upd (upd (upd (upd (upd (upd (upd (upd (upd (upd (upd (upd (upd (upd (upd (upd (upd (upd (upd (upd (upd (upd (fun _ => 0) (0 : Int32).toNatClampNeg 116) (1 : Int32).toNatClampNeg 101) (2 : Int32).toNatClampNeg 101) (3 : Int32).toNatClampNeg 116) (4 : Int32).toNatClampNeg 104) (5 : Int32).toNatClampNeg 32) (6 : Int32).toNatClampNeg 0) (7 : Int32).toNatClampNeg 108) (8 : Int32).toNatClampNeg 97) (9 : Int32).toNatClampNeg 99) (10 : Int32).toNatClampNeg 107) (11 : Int32).toNatClampNeg 32) (12 : Int32).toNatClampNeg 0) (13 : Int32).toNatClampNeg 115) (14 : Int32).toNatClampNeg 108) (15 : Int32).toNatClampNeg 97) (16 : Int32).toNatClampNeg 99) (17 : Int32).toNatClampNeg 107) (18 : Int32).toNatClampNeg 32) (19 : Int32).toNatClampNeg 0) (20 : Int32).toNatClampNeg 112) (21 : Int32).toNatClampNeg 117) (22 : Int32).toNatClampNeg 108) (23 : Int32).toNatClampNeg 108) (24 : Int32).toNatClampNeg 32) (25 : Int32).toNatClampNeg 0) (26 : Int32).toNatClampNeg 100) (27 : Int32).toNatClampNeg 101) (28 : Int32).toNatClampNeg 112) (29 : Int32).toNatClampNeg 116)))]) hP hD rfl
  clear hP hD
  obtain ⟨hP, hD⟩ := h9R
  refine lv_dup hx hb dX8_init_325 rfl ?_
  refine lv_bipush (v := 30) hx hb dX8_init_326 (by decide) ?_
  refine lv_bipush (v := 104) hx hb dX8_init_328 (by decide) ?_
  refine va_iast hx hb hK hP hD hS 14 0 rfl rfl (zf_in (by decide) (by decide)) dX8_init_330 (fun H locs hP hD hS => ?_)
  refine lv_dup hx hb dX8_init_331 rfl ?_
  refine lv_bipush (v := 31) hx hb dX8_init_332 (by decide) ?_
  refine lv_bipush (v := 32) hx hb dX8_init_334 (by decide) ?_
  refine va_iast hx hb hK hP hD hS 14 0 rfl rfl (zf_in (by decide) (by decide)) dX8_init_336 (fun H locs hP hD hS => ?_)
  refine lv_dup hx hb dX8_init_337 rfl ?_
  refine lv_bipush (v := 32) hx hb dX8_init_338 (by decide) ?_
  refine lv_iconst (v := 0) hx hb dX8_init_340 (by decide) ?_
  refine va_iast hx hb hK hP hD hS 14 0 rfl rfl (zf_in (by decide) (by decide)) dX8_init_341 (fun H locs hP hD hS => ?_)
  refine lv_dup hx hb dX8_init_342 rfl ?_
  refine lv_bipush (v := 33) hx hb dX8_init_343 (by decide) ?_
  refine lv_bipush (v := 115) hx hb dX8_init_345 (by decide) ?_
  refine va_iast hx hb hK hP hD hS 14 0 rfl rfl (zf_in (by decide) (by decide)) dX8_init_347 (fun H locs hP hD hS => ?_)
  refine lv_dup hx hb dX8_init_348 rfl ?_
  refine lv_bipush (v := 34) hx hb dX8_init_349 (by decide) ?_
  refine lv_bipush (v := 101) hx hb dX8_init_351 (by decide) ?_
  refine va_iast hx hb hK hP hD hS 14 0 rfl rfl (zf_in (by decide) (by decide)) dX8_init_353 (fun H locs hP hD hS => ?_)
  refine lv_dup hx hb dX8_init_354 rfl ?_
  refine lv_bipush (v := 35) hx hb dX8_init_355 (by decide) ?_
  refine lv_bipush (v := 99) hx hb dX8_init_357 (by decide) ?_
  refine va_iast hx hb hK hP hD hS 14 0 rfl rfl (zf_in (by decide) (by decide)) dX8_init_359 (fun H locs hP hD hS => ?_)
  have h9R := zRe (ws' := [(m0, .inr (8, (.int 0 :: .int 20 :: .int 0 :: .int 0 :: .int 0 :: .int 60 :: .int 0 :: .int 3 :: .int 1 :: .int (-1) :: .ref q_1 :: .ref q_2 :: .ref q_3 :: .ref q_4 :: .ref q_5 :: .ref q_6 :: .ref q_7 :: .ref q_8 :: .ref q_9 :: .ref q_10 :: .ref q_11 :: .ref q_12 :: .ref q_13 :: .null :: .null :: .null :: .int 0 :: .int 0 :: .int 0 :: .int 0 :: .int 0 :: .null :: .null :: .null :: .null :: .null :: .int 0 :: .int 0 :: []))), (q_1, .inl (cI, 8, .inl (fun _ => 0))), (q_2, .inl (cI, 8, .inl (fun _ => 0))), (q_3, .inl (cI, 8, .inl (fun _ => 0))), (q_4, .inl (cI, 8, .inl (fun _ => 0))), (q_5, .inl (cI, 40, .inl (fun _ => 0))), (q_6, .inl (cI, 40, .inl (fun _ => 0))), (q_7, .inl (cI, 3, .inl (zL3 5 10 50))), (q_8, .inl (cI, 8, .inl (fun _ => 0))), (q_9, .inl (cI, 8, .inl (fun _ => 0))), (q_10, .inl (cI, 8, .inl (fun _ => 0))), (q_11, .inl (cI, 8, .inl (fun _ => 0))), (q_12, .inl (cJ, 1280, .inr (.inl (fun _ => 0)))), (q_13, .inl (cJ, 160, .inr (.inl (fun _ => 0)))), (q_14, .inl (cI, 64, .inl (upd (upd (upd (upd (upd (upd (upd (upd (upd (upd (upd (upd (upd (upd (upd (upd (upd (upd (upd (upd (upd (upd (upd (upd (upd (upd (upd (upd (upd (upd (upd (upd (upd (upd (upd (upd (fun _ => 0) (0 : Int32).toNatClampNeg 116) (1 : Int32).toNatClampNeg 101) (2 : Int32).toNatClampNeg 101) (3 : Int32).toNatClampNeg 116) (4 : Int32).toNatClampNeg 104) (5 : Int32).toNatClampNeg 32) (6 : Int32).toNatClampNeg 0) (7 : Int32).toNatClampNeg 108) (8 : Int32).toNatClampNeg 97) (9 : Int32).toNatClampNeg 99) (10 : Int32).toNatClampNeg 107) (11 : Int32).toNatClampNeg 32) (12 : Int32).toNatClampNeg 0) (13 : Int32).toNatClampNeg 115) (14 : Int32).toNatClampNeg 108) (15 : Int32).toNatClampNeg 97) (16 : Int32).toNatClampNeg 99) (17 : Int32).toNatClampNeg 107) (18 : Int32).toNatClampNeg 32) (19 : Int32).toNatClampNeg 0) (20 : Int32).toNatClampNeg 112) (21 : Int32).toNatClampNeg 117) (22 : Int32).toNatClampNeg 108) (23 : Int32).toNatClampNeg 108) (24 : Int32).toNatClampNeg 32) (25 : Int32).toNatClampNeg 0) (26 : Int32).toNatClampNeg 100) (27 : Int32).toNatClampNeg 101) (28 : Int32).toNatClampNeg 112) (29 : Int32).toNatClampNeg 116) (30 : Int32).toNatClampNeg 104) (31 : Int32).toNatClampNeg 32) (32 : Int32).toNatClampNeg 0) (33 : Int32).toNatClampNeg 115) (34 : Int32).toNatClampNeg 101) (35 : Int32).toNatClampNeg 99)))]) hP hD rfl
  clear hP hD
  obtain ⟨hP, hD⟩ := h9R
  refine lv_dup hx hb dX8_init_360 rfl ?_
  refine lv_bipush (v := 36) hx hb dX8_init_361 (by decide) ?_
  refine lv_bipush (v := 111) hx hb dX8_init_363 (by decide) ?_
  refine va_iast hx hb hK hP hD hS 14 0 rfl rfl (zf_in (by decide) (by decide)) dX8_init_365 (fun H locs hP hD hS => ?_)
  refine lv_dup hx hb dX8_init_366 rfl ?_
  refine lv_bipush (v := 37) hx hb dX8_init_367 (by decide) ?_
  refine lv_bipush (v := 110) hx hb dX8_init_369 (by decide) ?_
  refine va_iast hx hb hK hP hD hS 14 0 rfl rfl (zf_in (by decide) (by decide)) dX8_init_371 (fun H locs hP hD hS => ?_)
  refine lv_dup hx hb dX8_init_372 rfl ?_
  refine lv_bipush (v := 38) hx hb dX8_init_373 (by decide) ?_
  refine lv_bipush (v := 100) hx hb dX8_init_375 (by decide) ?_
  refine va_iast hx hb hK hP hD hS 14 0 rfl rfl (zf_in (by decide) (by decide)) dX8_init_377 (fun H locs hP hD hS => ?_)
  refine lv_dup hx hb dX8_init_378 rfl ?_
  refine lv_bipush (v := 39) hx hb dX8_init_379 (by decide) ?_
  refine lv_bipush (v := 115) hx hb dX8_init_381 (by decide) ?_
  refine va_iast hx hb hK hP hD hS 14 0 rfl rfl (zf_in (by decide) (by decide)) dX8_init_383 (fun H locs hP hD hS => ?_)
  refine lv_dup hx hb dX8_init_384 rfl ?_
  refine lv_bipush (v := 40) hx hb dX8_init_385 (by decide) ?_
  refine lv_bipush (v := 32) hx hb dX8_init_387 (by decide) ?_
  refine va_iast hx hb hK hP hD hS 14 0 rfl rfl (zf_in (by decide) (by decide)) dX8_init_389 (fun H locs hP hD hS => ?_)
  refine lv_dup hx hb dX8_init_390 rfl ?_
  refine lv_bipush (v := 41) hx hb dX8_init_391 (by decide) ?_
  refine lv_iconst (v := 0) hx hb dX8_init_393 (by decide) ?_
  refine va_iast hx hb hK hP hD hS 14 0 rfl rfl (zf_in (by decide) (by decide)) dX8_init_394 (fun H locs hP hD hS => ?_)
  have h9R := zRe (ws' := [(m0, .inr (8, (.int 0 :: .int 20 :: .int 0 :: .int 0 :: .int 0 :: .int 60 :: .int 0 :: .int 3 :: .int 1 :: .int (-1) :: .ref q_1 :: .ref q_2 :: .ref q_3 :: .ref q_4 :: .ref q_5 :: .ref q_6 :: .ref q_7 :: .ref q_8 :: .ref q_9 :: .ref q_10 :: .ref q_11 :: .ref q_12 :: .ref q_13 :: .null :: .null :: .null :: .int 0 :: .int 0 :: .int 0 :: .int 0 :: .int 0 :: .null :: .null :: .null :: .null :: .null :: .int 0 :: .int 0 :: []))), (q_1, .inl (cI, 8, .inl (fun _ => 0))), (q_2, .inl (cI, 8, .inl (fun _ => 0))), (q_3, .inl (cI, 8, .inl (fun _ => 0))), (q_4, .inl (cI, 8, .inl (fun _ => 0))), (q_5, .inl (cI, 40, .inl (fun _ => 0))), (q_6, .inl (cI, 40, .inl (fun _ => 0))), (q_7, .inl (cI, 3, .inl (zL3 5 10 50))), (q_8, .inl (cI, 8, .inl (fun _ => 0))), (q_9, .inl (cI, 8, .inl (fun _ => 0))), (q_10, .inl (cI, 8, .inl (fun _ => 0))), (q_11, .inl (cI, 8, .inl (fun _ => 0))), (q_12, .inl (cJ, 1280, .inr (.inl (fun _ => 0)))), (q_13, .inl (cJ, 160, .inr (.inl (fun _ => 0)))), (q_14, .inl (cI, 64, .inl (upd (upd (upd (upd (upd (upd (upd (upd (upd (upd (upd (upd (upd (upd (upd (upd (upd (upd (upd (upd (upd (upd (upd (upd (upd (upd (upd (upd (upd (upd (upd (upd (upd (upd (upd (upd (upd (upd (upd (upd (upd (upd (fun _ => 0) (0 : Int32).toNatClampNeg 116) (1 : Int32).toNatClampNeg 101) (2 : Int32).toNatClampNeg 101) (3 : Int32).toNatClampNeg 116) (4 : Int32).toNatClampNeg 104) (5 : Int32).toNatClampNeg 32) (6 : Int32).toNatClampNeg 0) (7 : Int32).toNatClampNeg 108) (8 : Int32).toNatClampNeg 97) (9 : Int32).toNatClampNeg 99) (10 : Int32).toNatClampNeg 107) (11 : Int32).toNatClampNeg 32) (12 : Int32).toNatClampNeg 0) (13 : Int32).toNatClampNeg 115) (14 : Int32).toNatClampNeg 108) (15 : Int32).toNatClampNeg 97) (16 : Int32).toNatClampNeg 99) (17 : Int32).toNatClampNeg 107) (18 : Int32).toNatClampNeg 32) (19 : Int32).toNatClampNeg 0) (20 : Int32).toNatClampNeg 112) (21 : Int32).toNatClampNeg 117) (22 : Int32).toNatClampNeg 108) (23 : Int32).toNatClampNeg 108) (24 : Int32).toNatClampNeg 32) (25 : Int32).toNatClampNeg 0) (26 : Int32).toNatClampNeg 100) (27 : Int32).toNatClampNeg 101) (28 : Int32).toNatClampNeg 112) (29 : Int32).toNatClampNeg 116) (30 : Int32).toNatClampNeg 104) (31 : Int32).toNatClampNeg 32) (32 : Int32).toNatClampNeg 0) (33 : Int32).toNatClampNeg 115) (34 : Int32).toNatClampNeg 101) (35 : Int32).toNatClampNeg 99) (36 : Int32).toNatClampNeg 111) (37 : Int32).toNatClampNeg 110) (38 : Int32).toNatClampNeg 100) (39 : Int32).toNatClampNeg 115) (40 : Int32).toNatClampNeg 32) (41 : Int32).toNatClampNeg 0)))]) hP hD rfl
  clear hP hD
  obtain ⟨hP, hD⟩ := h9R
  refine lv_dup hx hb dX8_init_395 rfl ?_
  refine lv_bipush (v := 42) hx hb dX8_init_396 (by decide) ?_
  refine lv_bipush (v := 104) hx hb dX8_init_398 (by decide) ?_
  refine va_iast hx hb hK hP hD hS 14 0 rfl rfl (zf_in (by decide) (by decide)) dX8_init_400 (fun H locs hP hD hS => ?_)
  refine lv_dup hx hb dX8_init_401 rfl ?_
  refine lv_bipush (v := 43) hx hb dX8_init_402 (by decide) ?_
  refine lv_bipush (v := 117) hx hb dX8_init_404 (by decide) ?_
  refine va_iast hx hb hK hP hD hS 14 0 rfl rfl (zf_in (by decide) (by decide)) dX8_init_406 (fun H locs hP hD hS => ?_)
  refine lv_dup hx hb dX8_init_407 rfl ?_
  refine lv_bipush (v := 44) hx hb dX8_init_408 (by decide) ?_
  refine lv_bipush (v := 114) hx hb dX8_init_410 (by decide) ?_
  refine va_iast hx hb hK hP hD hS 14 0 rfl rfl (zf_in (by decide) (by decide)) dX8_init_412 (fun H locs hP hD hS => ?_)
  refine lv_dup hx hb dX8_init_413 rfl ?_
  refine lv_bipush (v := 45) hx hb dX8_init_414 (by decide) ?_
  refine lv_bipush (v := 114) hx hb dX8_init_416 (by decide) ?_
  refine va_iast hx hb hK hP hD hS 14 0 rfl rfl (zf_in (by decide) (by decide)) dX8_init_418 (fun H locs hP hD hS => ?_)
  refine lv_dup hx hb dX8_init_419 rfl ?_
  refine lv_bipush (v := 46) hx hb dX8_init_420 (by decide) ?_
  refine lv_bipush (v := 121) hx hb dX8_init_422 (by decide) ?_
  refine va_iast hx hb hK hP hD hS 14 0 rfl rfl (zf_in (by decide) (by decide)) dX8_init_424 (fun H locs hP hD hS => ?_)
  refine lv_dup hx hb dX8_init_425 rfl ?_
  refine lv_bipush (v := 47) hx hb dX8_init_426 (by decide) ?_
  refine lv_bipush (v := 32) hx hb dX8_init_428 (by decide) ?_
  refine va_iast hx hb hK hP hD hS 14 0 rfl rfl (zf_in (by decide) (by decide)) dX8_init_430 (fun H locs hP hD hS => ?_)
  have h9R := zRe (ws' := [(m0, .inr (8, (.int 0 :: .int 20 :: .int 0 :: .int 0 :: .int 0 :: .int 60 :: .int 0 :: .int 3 :: .int 1 :: .int (-1) :: .ref q_1 :: .ref q_2 :: .ref q_3 :: .ref q_4 :: .ref q_5 :: .ref q_6 :: .ref q_7 :: .ref q_8 :: .ref q_9 :: .ref q_10 :: .ref q_11 :: .ref q_12 :: .ref q_13 :: .null :: .null :: .null :: .int 0 :: .int 0 :: .int 0 :: .int 0 :: .int 0 :: .null :: .null :: .null :: .null :: .null :: .int 0 :: .int 0 :: []))), (q_1, .inl (cI, 8, .inl (fun _ => 0))), (q_2, .inl (cI, 8, .inl (fun _ => 0))), (q_3, .inl (cI, 8, .inl (fun _ => 0))), (q_4, .inl (cI, 8, .inl (fun _ => 0))), (q_5, .inl (cI, 40, .inl (fun _ => 0))), (q_6, .inl (cI, 40, .inl (fun _ => 0))), (q_7, .inl (cI, 3, .inl (zL3 5 10 50))), (q_8, .inl (cI, 8, .inl (fun _ => 0))), (q_9, .inl (cI, 8, .inl (fun _ => 0))), (q_10, .inl (cI, 8, .inl (fun _ => 0))), (q_11, .inl (cI, 8, .inl (fun _ => 0))), (q_12, .inl (cJ, 1280, .inr (.inl (fun _ => 0)))), (q_13, .inl (cJ, 160, .inr (.inl (fun _ => 0)))), (q_14, .inl (cI, 64, .inl (upd (upd (upd (upd (upd (upd (upd (upd (upd (upd (upd (upd (upd (upd (upd (upd (upd (upd (upd (upd (upd (upd (upd (upd (upd (upd (upd (upd (upd (upd (upd (upd (upd (upd (upd (upd (upd (upd (upd (upd (upd (upd (upd (upd (upd (upd (upd (upd (fun _ => 0) (0 : Int32).toNatClampNeg 116) (1 : Int32).toNatClampNeg 101) (2 : Int32).toNatClampNeg 101) (3 : Int32).toNatClampNeg 116) (4 : Int32).toNatClampNeg 104) (5 : Int32).toNatClampNeg 32) (6 : Int32).toNatClampNeg 0) (7 : Int32).toNatClampNeg 108) (8 : Int32).toNatClampNeg 97) (9 : Int32).toNatClampNeg 99) (10 : Int32).toNatClampNeg 107) (11 : Int32).toNatClampNeg 32) (12 : Int32).toNatClampNeg 0) (13 : Int32).toNatClampNeg 115) (14 : Int32).toNatClampNeg 108) (15 : Int32).toNatClampNeg 97) (16 : Int32).toNatClampNeg 99) (17 : Int32).toNatClampNeg 107) (18 : Int32).toNatClampNeg 32) (19 : Int32).toNatClampNeg 0) (20 : Int32).toNatClampNeg 112) (21 : Int32).toNatClampNeg 117) (22 : Int32).toNatClampNeg 108) (23 : Int32).toNatClampNeg 108) (24 : Int32).toNatClampNeg 32) (25 : Int32).toNatClampNeg 0) (26 : Int32).toNatClampNeg 100) (27 : Int32).toNatClampNeg 101) (28 : Int32).toNatClampNeg 112) (29 : Int32).toNatClampNeg 116) (30 : Int32).toNatClampNeg 104) (31 : Int32).toNatClampNeg 32) (32 : Int32).toNatClampNeg 0) (33 : Int32).toNatClampNeg 115) (34 : Int32).toNatClampNeg 101) (35 : Int32).toNatClampNeg 99) (36 : Int32).toNatClampNeg 111) (37 : Int32).toNatClampNeg 110) (38 : Int32).toNatClampNeg 100) (39 : Int32).toNatClampNeg 115) (40 : Int32).toNatClampNeg 32) (41 : Int32).toNatClampNeg 0) (42 : Int32).toNatClampNeg 104) (43 : Int32).toNatClampNeg 117) (44 : Int32).toNatClampNeg 114) (45 : Int32).toNatClampNeg 114) (46 : Int32).toNatClampNeg 121) (47 : Int32).toNatClampNeg 32)))]) hP hD rfl
  clear hP hD
  obtain ⟨hP, hD⟩ := h9R
  refine lv_dup hx hb dX8_init_431 rfl ?_
  refine lv_bipush (v := 48) hx hb dX8_init_432 (by decide) ?_
  refine lv_iconst (v := 0) hx hb dX8_init_434 (by decide) ?_
  refine va_iast hx hb hK hP hD hS 14 0 rfl rfl (zf_in (by decide) (by decide)) dX8_init_435 (fun H locs hP hD hS => ?_)
  refine lv_dup hx hb dX8_init_436 rfl ?_
  refine lv_bipush (v := 49) hx hb dX8_init_437 (by decide) ?_
  refine lv_bipush (v := 103) hx hb dX8_init_439 (by decide) ?_
  refine va_iast hx hb hK hP hD hS 14 0 rfl rfl (zf_in (by decide) (by decide)) dX8_init_441 (fun H locs hP hD hS => ?_)
  refine lv_dup hx hb dX8_init_442 rfl ?_
  refine lv_bipush (v := 50) hx hb dX8_init_443 (by decide) ?_
  refine lv_bipush (v := 97) hx hb dX8_init_445 (by decide) ?_
  refine va_iast hx hb hK hP hD hS 14 0 rfl rfl (zf_in (by decide) (by decide)) dX8_init_447 (fun H locs hP hD hS => ?_)
  refine lv_dup hx hb dX8_init_448 rfl ?_
  refine lv_bipush (v := 51) hx hb dX8_init_449 (by decide) ?_
  refine lv_bipush (v := 112) hx hb dX8_init_451 (by decide) ?_
  refine va_iast hx hb hK hP hD hS 14 0 rfl rfl (zf_in (by decide) (by decide)) dX8_init_453 (fun H locs hP hD hS => ?_)
  refine lv_dup hx hb dX8_init_454 rfl ?_
  refine lv_bipush (v := 52) hx hb dX8_init_455 (by decide) ?_
  refine lv_bipush (v := 32) hx hb dX8_init_457 (by decide) ?_
  refine va_iast hx hb hK hP hD hS 14 0 rfl rfl (zf_in (by decide) (by decide)) dX8_init_459 (fun H locs hP hD hS => ?_)
  refine lv_dup hx hb dX8_init_460 rfl ?_
  refine lv_bipush (v := 53) hx hb dX8_init_461 (by decide) ?_
  refine lv_iconst (v := 0) hx hb dX8_init_463 (by decide) ?_
  refine va_iast hx hb hK hP hD hS 14 0 rfl rfl (zf_in (by decide) (by decide)) dX8_init_464 (fun H locs hP hD hS => ?_)
  have h9R := zRe (ws' := [(m0, .inr (8, (.int 0 :: .int 20 :: .int 0 :: .int 0 :: .int 0 :: .int 60 :: .int 0 :: .int 3 :: .int 1 :: .int (-1) :: .ref q_1 :: .ref q_2 :: .ref q_3 :: .ref q_4 :: .ref q_5 :: .ref q_6 :: .ref q_7 :: .ref q_8 :: .ref q_9 :: .ref q_10 :: .ref q_11 :: .ref q_12 :: .ref q_13 :: .null :: .null :: .null :: .int 0 :: .int 0 :: .int 0 :: .int 0 :: .int 0 :: .null :: .null :: .null :: .null :: .null :: .int 0 :: .int 0 :: []))), (q_1, .inl (cI, 8, .inl (fun _ => 0))), (q_2, .inl (cI, 8, .inl (fun _ => 0))), (q_3, .inl (cI, 8, .inl (fun _ => 0))), (q_4, .inl (cI, 8, .inl (fun _ => 0))), (q_5, .inl (cI, 40, .inl (fun _ => 0))), (q_6, .inl (cI, 40, .inl (fun _ => 0))), (q_7, .inl (cI, 3, .inl (zL3 5 10 50))), (q_8, .inl (cI, 8, .inl (fun _ => 0))), (q_9, .inl (cI, 8, .inl (fun _ => 0))), (q_10, .inl (cI, 8, .inl (fun _ => 0))), (q_11, .inl (cI, 8, .inl (fun _ => 0))), (q_12, .inl (cJ, 1280, .inr (.inl (fun _ => 0)))), (q_13, .inl (cJ, 160, .inr (.inl (fun _ => 0)))), (q_14, .inl (cI, 64, .inl (upd (upd (upd (upd (upd (upd (upd (upd (upd (upd (upd (upd (upd (upd (upd (upd (upd (upd (upd (upd (upd (upd (upd (upd (upd (upd (upd (upd (upd (upd (upd (upd (upd (upd (upd (upd (upd (upd (upd (upd (upd (upd (upd (upd (upd (upd (upd (upd (upd (upd (upd (upd (upd (upd (fun _ => 0) (0 : Int32).toNatClampNeg 116) (1 : Int32).toNatClampNeg 101) (2 : Int32).toNatClampNeg 101) (3 : Int32).toNatClampNeg 116) (4 : Int32).toNatClampNeg 104) (5 : Int32).toNatClampNeg 32) (6 : Int32).toNatClampNeg 0) (7 : Int32).toNatClampNeg 108) (8 : Int32).toNatClampNeg 97) (9 : Int32).toNatClampNeg 99) (10 : Int32).toNatClampNeg 107) (11 : Int32).toNatClampNeg 32) (12 : Int32).toNatClampNeg 0) (13 : Int32).toNatClampNeg 115) (14 : Int32).toNatClampNeg 108) (15 : Int32).toNatClampNeg 97) (16 : Int32).toNatClampNeg 99) (17 : Int32).toNatClampNeg 107) (18 : Int32).toNatClampNeg 32) (19 : Int32).toNatClampNeg 0) (20 : Int32).toNatClampNeg 112) (21 : Int32).toNatClampNeg 117) (22 : Int32).toNatClampNeg 108) (23 : Int32).toNatClampNeg 108) (24 : Int32).toNatClampNeg 32) (25 : Int32).toNatClampNeg 0) (26 : Int32).toNatClampNeg 100) (27 : Int32).toNatClampNeg 101) (28 : Int32).toNatClampNeg 112) (29 : Int32).toNatClampNeg 116) (30 : Int32).toNatClampNeg 104) (31 : Int32).toNatClampNeg 32) (32 : Int32).toNatClampNeg 0) (33 : Int32).toNatClampNeg 115) (34 : Int32).toNatClampNeg 101) (35 : Int32).toNatClampNeg 99) (36 : Int32).toNatClampNeg 111) (37 : Int32).toNatClampNeg 110) (38 : Int32).toNatClampNeg 100) (39 : Int32).toNatClampNeg 115) (40 : Int32).toNatClampNeg 32) (41 : Int32).toNatClampNeg 0) (42 : Int32).toNatClampNeg 104) (43 : Int32).toNatClampNeg 117) (44 : Int32).toNatClampNeg 114) (45 : Int32).toNatClampNeg 114) (46 : Int32).toNatClampNeg 121) (47 : Int32).toNatClampNeg 32) (48 : Int32).toNatClampNeg 0) (49 : Int32).toNatClampNeg 103) (50 : Int32).toNatClampNeg 97) (51 : Int32).toNatClampNeg 112) (52 : Int32).toNatClampNeg 32) (53 : Int32).toNatClampNeg 0)))]) hP hD rfl
  clear hP hD
  obtain ⟨hP, hD⟩ := h9R
  refine lv_dup hx hb dX8_init_465 rfl ?_
  refine lv_bipush (v := 54) hx hb dX8_init_466 (by decide) ?_
  refine lv_bipush (v := 99) hx hb dX8_init_468 (by decide) ?_
  refine va_iast hx hb hK hP hD hS 14 0 rfl rfl (zf_in (by decide) (by decide)) dX8_init_470 (fun H locs hP hD hS => ?_)
  refine lv_dup hx hb dX8_init_471 rfl ?_
  refine lv_bipush (v := 55) hx hb dX8_init_472 (by decide) ?_
  refine lv_bipush (v := 111) hx hb dX8_init_474 (by decide) ?_
  refine va_iast hx hb hK hP hD hS 14 0 rfl rfl (zf_in (by decide) (by decide)) dX8_init_476 (fun H locs hP hD hS => ?_)
  refine lv_dup hx hb dX8_init_477 rfl ?_
  refine lv_bipush (v := 56) hx hb dX8_init_478 (by decide) ?_
  refine lv_bipush (v := 115) hx hb dX8_init_480 (by decide) ?_
  refine va_iast hx hb hK hP hD hS 14 0 rfl rfl (zf_in (by decide) (by decide)) dX8_init_482 (fun H locs hP hD hS => ?_)
  refine lv_dup hx hb dX8_init_483 rfl ?_
  refine lv_bipush (v := 57) hx hb dX8_init_484 (by decide) ?_
  refine lv_bipush (v := 116) hx hb dX8_init_486 (by decide) ?_
  refine va_iast hx hb hK hP hD hS 14 0 rfl rfl (zf_in (by decide) (by decide)) dX8_init_488 (fun H locs hP hD hS => ?_)
  refine lv_dup hx hb dX8_init_489 rfl ?_
  refine lv_bipush (v := 58) hx hb dX8_init_490 (by decide) ?_
  refine lv_bipush (v := 32) hx hb dX8_init_492 (by decide) ?_
  refine va_iast hx hb hK hP hD hS 14 0 rfl rfl (zf_in (by decide) (by decide)) dX8_init_494 (fun H locs hP hD hS => ?_)
  refine lv_dup hx hb dX8_init_495 rfl ?_
  refine lv_bipush (v := 59) hx hb dX8_init_496 (by decide) ?_
  refine lv_iconst (v := 0) hx hb dX8_init_498 (by decide) ?_
  refine va_iast hx hb hK hP hD hS 14 0 rfl rfl (zf_in (by decide) (by decide)) dX8_init_499 (fun H locs hP hD hS => ?_)
  have h9R := zRe (ws' := [(m0, .inr (8, (.int 0 :: .int 20 :: .int 0 :: .int 0 :: .int 0 :: .int 60 :: .int 0 :: .int 3 :: .int 1 :: .int (-1) :: .ref q_1 :: .ref q_2 :: .ref q_3 :: .ref q_4 :: .ref q_5 :: .ref q_6 :: .ref q_7 :: .ref q_8 :: .ref q_9 :: .ref q_10 :: .ref q_11 :: .ref q_12 :: .ref q_13 :: .null :: .null :: .null :: .int 0 :: .int 0 :: .int 0 :: .int 0 :: .int 0 :: .null :: .null :: .null :: .null :: .null :: .int 0 :: .int 0 :: []))), (q_1, .inl (cI, 8, .inl (fun _ => 0))), (q_2, .inl (cI, 8, .inl (fun _ => 0))), (q_3, .inl (cI, 8, .inl (fun _ => 0))), (q_4, .inl (cI, 8, .inl (fun _ => 0))), (q_5, .inl (cI, 40, .inl (fun _ => 0))), (q_6, .inl (cI, 40, .inl (fun _ => 0))), (q_7, .inl (cI, 3, .inl (zL3 5 10 50))), (q_8, .inl (cI, 8, .inl (fun _ => 0))), (q_9, .inl (cI, 8, .inl (fun _ => 0))), (q_10, .inl (cI, 8, .inl (fun _ => 0))), (q_11, .inl (cI, 8, .inl (fun _ => 0))), (q_12, .inl (cJ, 1280, .inr (.inl (fun _ => 0)))), (q_13, .inl (cJ, 160, .inr (.inl (fun _ => 0)))), (q_14, .inl (cI, 64, .inl (upd (upd (upd (upd (upd (upd (upd (upd (upd (upd (upd (upd (upd (upd (upd (upd (upd (upd (upd (upd (upd (upd (upd (upd (upd (upd (upd (upd (upd (upd (upd (upd (upd (upd (upd (upd (upd (upd (upd (upd (upd (upd (upd (upd (upd (upd (upd (upd (upd (upd (upd (upd (upd (upd (upd (upd (upd (upd (upd (upd (fun _ => 0) (0 : Int32).toNatClampNeg 116) (1 : Int32).toNatClampNeg 101) (2 : Int32).toNatClampNeg 101) (3 : Int32).toNatClampNeg 116) (4 : Int32).toNatClampNeg 104) (5 : Int32).toNatClampNeg 32) (6 : Int32).toNatClampNeg 0) (7 : Int32).toNatClampNeg 108) (8 : Int32).toNatClampNeg 97) (9 : Int32).toNatClampNeg 99) (10 : Int32).toNatClampNeg 107) (11 : Int32).toNatClampNeg 32) (12 : Int32).toNatClampNeg 0) (13 : Int32).toNatClampNeg 115) (14 : Int32).toNatClampNeg 108) (15 : Int32).toNatClampNeg 97) (16 : Int32).toNatClampNeg 99) (17 : Int32).toNatClampNeg 107) (18 : Int32).toNatClampNeg 32) (19 : Int32).toNatClampNeg 0) (20 : Int32).toNatClampNeg 112) (21 : Int32).toNatClampNeg 117) (22 : Int32).toNatClampNeg 108) (23 : Int32).toNatClampNeg 108) (24 : Int32).toNatClampNeg 32) (25 : Int32).toNatClampNeg 0) (26 : Int32).toNatClampNeg 100) (27 : Int32).toNatClampNeg 101) (28 : Int32).toNatClampNeg 112) (29 : Int32).toNatClampNeg 116) (30 : Int32).toNatClampNeg 104) (31 : Int32).toNatClampNeg 32) (32 : Int32).toNatClampNeg 0) (33 : Int32).toNatClampNeg 115) (34 : Int32).toNatClampNeg 101) (35 : Int32).toNatClampNeg 99) (36 : Int32).toNatClampNeg 111) (37 : Int32).toNatClampNeg 110) (38 : Int32).toNatClampNeg 100) (39 : Int32).toNatClampNeg 115) (40 : Int32).toNatClampNeg 32) (41 : Int32).toNatClampNeg 0) (42 : Int32).toNatClampNeg 104) (43 : Int32).toNatClampNeg 117) (44 : Int32).toNatClampNeg 114) (45 : Int32).toNatClampNeg 114) (46 : Int32).toNatClampNeg 121) (47 : Int32).toNatClampNeg 32) (48 : Int32).toNatClampNeg 0) (49 : Int32).toNatClampNeg 103) (50 : Int32).toNatClampNeg 97) (51 : Int32).toNatClampNeg 112) (52 : Int32).toNatClampNeg 32) (53 : Int32).toNatClampNeg 0) (54 : Int32).toNatClampNeg 99) (55 : Int32).toNatClampNeg 111) (56 : Int32).toNatClampNeg 115) (57 : Int32).toNatClampNeg 116) (58 : Int32).toNatClampNeg 32) (59 : Int32).toNatClampNeg 0)))]) hP hD rfl
  clear hP hD
  obtain ⟨hP, hD⟩ := h9R
  refine lv_dup hx hb dX8_init_500 rfl ?_
  refine lv_bipush (v := 60) hx hb dX8_init_501 (by decide) ?_
  refine lv_bipush (v := 97) hx hb dX8_init_503 (by decide) ?_
  refine va_iast hx hb hK hP hD hS 14 0 rfl rfl (zf_in (by decide) (by decide)) dX8_init_505 (fun H locs hP hD hS => ?_)
  refine lv_dup hx hb dX8_init_506 rfl ?_
  refine lv_bipush (v := 61) hx hb dX8_init_507 (by decide) ?_
  refine lv_bipush (v := 116) hx hb dX8_init_509 (by decide) ?_
  refine va_iast hx hb hK hP hD hS 14 0 rfl rfl (zf_in (by decide) (by decide)) dX8_init_511 (fun H locs hP hD hS => ?_)
  refine lv_dup hx hb dX8_init_512 rfl ?_
  refine lv_bipush (v := 62) hx hb dX8_init_513 (by decide) ?_
  refine lv_bipush (v := 32) hx hb dX8_init_515 (by decide) ?_
  refine va_iast hx hb hK hP hD hS 14 0 rfl rfl (zf_in (by decide) (by decide)) dX8_init_517 (fun H locs hP hD hS => ?_)
  refine lv_dup hx hb dX8_init_518 rfl ?_
  refine lv_bipush (v := 63) hx hb dX8_init_519 (by decide) ?_
  refine lv_iconst (v := 0) hx hb dX8_init_521 (by decide) ?_
  refine va_iast hx hb hK hP hD hS 14 0 rfl rfl (zf_in (by decide) (by decide)) dX8_init_522 (fun H locs hP hD hS => ?_)
  have h9R := zRe (ws' := [(m0, .inr (8, (.int 0 :: .int 20 :: .int 0 :: .int 0 :: .int 0 :: .int 60 :: .int 0 :: .int 3 :: .int 1 :: .int (-1) :: .ref q_1 :: .ref q_2 :: .ref q_3 :: .ref q_4 :: .ref q_5 :: .ref q_6 :: .ref q_7 :: .ref q_8 :: .ref q_9 :: .ref q_10 :: .ref q_11 :: .ref q_12 :: .ref q_13 :: .null :: .null :: .null :: .int 0 :: .int 0 :: .int 0 :: .int 0 :: .int 0 :: .null :: .null :: .null :: .null :: .null :: .int 0 :: .int 0 :: []))), (q_1, .inl (cI, 8, .inl (fun _ => 0))), (q_2, .inl (cI, 8, .inl (fun _ => 0))), (q_3, .inl (cI, 8, .inl (fun _ => 0))), (q_4, .inl (cI, 8, .inl (fun _ => 0))), (q_5, .inl (cI, 40, .inl (fun _ => 0))), (q_6, .inl (cI, 40, .inl (fun _ => 0))), (q_7, .inl (cI, 3, .inl (zL3 5 10 50))), (q_8, .inl (cI, 8, .inl (fun _ => 0))), (q_9, .inl (cI, 8, .inl (fun _ => 0))), (q_10, .inl (cI, 8, .inl (fun _ => 0))), (q_11, .inl (cI, 8, .inl (fun _ => 0))), (q_12, .inl (cJ, 1280, .inr (.inl (fun _ => 0)))), (q_13, .inl (cJ, 160, .inr (.inl (fun _ => 0)))), (q_14, .inl (cI, 64, .inl (upd (upd (upd (upd (upd (upd (upd (upd (upd (upd (upd (upd (upd (upd (upd (upd (upd (upd (upd (upd (upd (upd (upd (upd (upd (upd (upd (upd (upd (upd (upd (upd (upd (upd (upd (upd (upd (upd (upd (upd (upd (upd (upd (upd (upd (upd (upd (upd (upd (upd (upd (upd (upd (upd (upd (upd (upd (upd (upd (upd (upd (upd (upd (upd (fun _ => 0) (0 : Int32).toNatClampNeg 116) (1 : Int32).toNatClampNeg 101) (2 : Int32).toNatClampNeg 101) (3 : Int32).toNatClampNeg 116) (4 : Int32).toNatClampNeg 104) (5 : Int32).toNatClampNeg 32) (6 : Int32).toNatClampNeg 0) (7 : Int32).toNatClampNeg 108) (8 : Int32).toNatClampNeg 97) (9 : Int32).toNatClampNeg 99) (10 : Int32).toNatClampNeg 107) (11 : Int32).toNatClampNeg 32) (12 : Int32).toNatClampNeg 0) (13 : Int32).toNatClampNeg 115) (14 : Int32).toNatClampNeg 108) (15 : Int32).toNatClampNeg 97) (16 : Int32).toNatClampNeg 99) (17 : Int32).toNatClampNeg 107) (18 : Int32).toNatClampNeg 32) (19 : Int32).toNatClampNeg 0) (20 : Int32).toNatClampNeg 112) (21 : Int32).toNatClampNeg 117) (22 : Int32).toNatClampNeg 108) (23 : Int32).toNatClampNeg 108) (24 : Int32).toNatClampNeg 32) (25 : Int32).toNatClampNeg 0) (26 : Int32).toNatClampNeg 100) (27 : Int32).toNatClampNeg 101) (28 : Int32).toNatClampNeg 112) (29 : Int32).toNatClampNeg 116) (30 : Int32).toNatClampNeg 104) (31 : Int32).toNatClampNeg 32) (32 : Int32).toNatClampNeg 0) (33 : Int32).toNatClampNeg 115) (34 : Int32).toNatClampNeg 101) (35 : Int32).toNatClampNeg 99) (36 : Int32).toNatClampNeg 111) (37 : Int32).toNatClampNeg 110) (38 : Int32).toNatClampNeg 100) (39 : Int32).toNatClampNeg 115) (40 : Int32).toNatClampNeg 32) (41 : Int32).toNatClampNeg 0) (42 : Int32).toNatClampNeg 104) (43 : Int32).toNatClampNeg 117) (44 : Int32).toNatClampNeg 114) (45 : Int32).toNatClampNeg 114) (46 : Int32).toNatClampNeg 121) (47 : Int32).toNatClampNeg 32) (48 : Int32).toNatClampNeg 0) (49 : Int32).toNatClampNeg 103) (50 : Int32).toNatClampNeg 97) (51 : Int32).toNatClampNeg 112) (52 : Int32).toNatClampNeg 32) (53 : Int32).toNatClampNeg 0) (54 : Int32).toNatClampNeg 99) (55 : Int32).toNatClampNeg 111) (56 : Int32).toNatClampNeg 115) (57 : Int32).toNatClampNeg 116) (58 : Int32).toNatClampNeg 32) (59 : Int32).toNatClampNeg 0) (60 : Int32).toNatClampNeg 97) (61 : Int32).toNatClampNeg 116) (62 : Int32).toNatClampNeg 32) (63 : Int32).toNatClampNeg 0)))]) hP hD rfl
  clear hP hD
  obtain ⟨hP, hD⟩ := h9R
  refine va_putF (D := D) (ci := 8) (v := .ref q_14) (ty := (.array .int)) (C := RX8) (T := TX8) (N := 38) hx hb hts hi_X8_init_8 tyX8 tyX8_ok nmX8 hown hK hP hD hS 0 rfl rfl 23 (by decide) (hts (.fieldLink RX8 66 "TheLiningsInItModel" "words" "[I") (List.mem_of_getElem? (i := 24) rfl)) (fun _ h9 => h9) rfl hin rfl (tyX8_ok 23 (Nat.le_of_ble_eq_true rfl)) rfl rfl (Nat.le_of_ble_eq_true rfl) dX8_init_523 (fun H locs hP hD hS => ?_)
  have h9R := zRe (ws' := [(m0, .inr (8, (.int 0 :: .int 20 :: .int 0 :: .int 0 :: .int 0 :: .int 60 :: .int 0 :: .int 3 :: .int 1 :: .int (-1) :: .ref q_1 :: .ref q_2 :: .ref q_3 :: .ref q_4 :: .ref q_5 :: .ref q_6 :: .ref q_7 :: .ref q_8 :: .ref q_9 :: .ref q_10 :: .ref q_11 :: .ref q_12 :: .ref q_13 :: .ref q_14 :: .null :: .null :: .int 0 :: .int 0 :: .int 0 :: .int 0 :: .int 0 :: .null :: .null :: .null :: .null :: .null :: .int 0 :: .int 0 :: []))), (q_1, .inl (cI, 8, .inl (fun _ => 0))), (q_2, .inl (cI, 8, .inl (fun _ => 0))), (q_3, .inl (cI, 8, .inl (fun _ => 0))), (q_4, .inl (cI, 8, .inl (fun _ => 0))), (q_5, .inl (cI, 40, .inl (fun _ => 0))), (q_6, .inl (cI, 40, .inl (fun _ => 0))), (q_7, .inl (cI, 3, .inl (zL3 5 10 50))), (q_8, .inl (cI, 8, .inl (fun _ => 0))), (q_9, .inl (cI, 8, .inl (fun _ => 0))), (q_10, .inl (cI, 8, .inl (fun _ => 0))), (q_11, .inl (cI, 8, .inl (fun _ => 0))), (q_12, .inl (cJ, 1280, .inr (.inl (fun _ => 0)))), (q_13, .inl (cJ, 160, .inr (.inl (fun _ => 0)))), (q_14, .inl (cI, 64, .inl (upd (upd (upd (upd (upd (upd (upd (upd (upd (upd (upd (upd (upd (upd (upd (upd (upd (upd (upd (upd (upd (upd (upd (upd (upd (upd (upd (upd (upd (upd (upd (upd (upd (upd (upd (upd (upd (upd (upd (upd (upd (upd (upd (upd (upd (upd (upd (upd (upd (upd (upd (upd (upd (upd (upd (upd (upd (upd (upd (upd (upd (upd (upd (upd (fun _ => 0) (0 : Int32).toNatClampNeg 116) (1 : Int32).toNatClampNeg 101) (2 : Int32).toNatClampNeg 101) (3 : Int32).toNatClampNeg 116) (4 : Int32).toNatClampNeg 104) (5 : Int32).toNatClampNeg 32) (6 : Int32).toNatClampNeg 0) (7 : Int32).toNatClampNeg 108) (8 : Int32).toNatClampNeg 97) (9 : Int32).toNatClampNeg 99) (10 : Int32).toNatClampNeg 107) (11 : Int32).toNatClampNeg 32) (12 : Int32).toNatClampNeg 0) (13 : Int32).toNatClampNeg 115) (14 : Int32).toNatClampNeg 108) (15 : Int32).toNatClampNeg 97) (16 : Int32).toNatClampNeg 99) (17 : Int32).toNatClampNeg 107) (18 : Int32).toNatClampNeg 32) (19 : Int32).toNatClampNeg 0) (20 : Int32).toNatClampNeg 112) (21 : Int32).toNatClampNeg 117) (22 : Int32).toNatClampNeg 108) (23 : Int32).toNatClampNeg 108) (24 : Int32).toNatClampNeg 32) (25 : Int32).toNatClampNeg 0) (26 : Int32).toNatClampNeg 100) (27 : Int32).toNatClampNeg 101) (28 : Int32).toNatClampNeg 112) (29 : Int32).toNatClampNeg 116) (30 : Int32).toNatClampNeg 104) (31 : Int32).toNatClampNeg 32) (32 : Int32).toNatClampNeg 0) (33 : Int32).toNatClampNeg 115) (34 : Int32).toNatClampNeg 101) (35 : Int32).toNatClampNeg 99) (36 : Int32).toNatClampNeg 111) (37 : Int32).toNatClampNeg 110) (38 : Int32).toNatClampNeg 100) (39 : Int32).toNatClampNeg 115) (40 : Int32).toNatClampNeg 32) (41 : Int32).toNatClampNeg 0) (42 : Int32).toNatClampNeg 104) (43 : Int32).toNatClampNeg 117) (44 : Int32).toNatClampNeg 114) (45 : Int32).toNatClampNeg 114) (46 : Int32).toNatClampNeg 121) (47 : Int32).toNatClampNeg 32) (48 : Int32).toNatClampNeg 0) (49 : Int32).toNatClampNeg 103) (50 : Int32).toNatClampNeg 97) (51 : Int32).toNatClampNeg 112) (52 : Int32).toNatClampNeg 32) (53 : Int32).toNatClampNeg 0) (54 : Int32).toNatClampNeg 99) (55 : Int32).toNatClampNeg 111) (56 : Int32).toNatClampNeg 115) (57 : Int32).toNatClampNeg 116) (58 : Int32).toNatClampNeg 32) (59 : Int32).toNatClampNeg 0) (60 : Int32).toNatClampNeg 97) (61 : Int32).toNatClampNeg 116) (62 : Int32).toNatClampNeg 32) (63 : Int32).toNatClampNeg 0)))]) hP hD rfl
  clear hP hD
  obtain ⟨hP, hD⟩ := h9R
  refine lv_aload_n hx hb dX8_init_526 rfl (lv_at hl 0 rfl) ?_
  refine lv_bipush (v := 10) hx hb dX8_init_527 (by decide) ?_
  refine va_newa hx hb (atype := .int) (hts _ (List.mem_of_getElem? (i := 9) rfl)) rfl hK hP hD hS hA (N' := 10) (a0 := (10, .inl (fun _ => 0))) (fun _ => rfl) (by decide) (by decide) (Nat.le_of_ble_eq_true rfl) (Nat.le_of_ble_eq_true rfl) (Nat.le_of_ble_eq_true rfl) dX8_init_529 (fun q_15 cA H hK1 hP hD hS => ?_)
  obtain rfl : cI = cA := zk_eqI (k := 0) hK rfl hK1
  have h9R := zRe (ws' := [(m0, .inr (8, (.int 0 :: .int 20 :: .int 0 :: .int 0 :: .int 0 :: .int 60 :: .int 0 :: .int 3 :: .int 1 :: .int (-1) :: .ref q_1 :: .ref q_2 :: .ref q_3 :: .ref q_4 :: .ref q_5 :: .ref q_6 :: .ref q_7 :: .ref q_8 :: .ref q_9 :: .ref q_10 :: .ref q_11 :: .ref q_12 :: .ref q_13 :: .ref q_14 :: .null :: .null :: .int 0 :: .int 0 :: .int 0 :: .int 0 :: .int 0 :: .null :: .null :: .null :: .null :: .null :: .int 0 :: .int 0 :: []))), (q_1, .inl (cI, 8, .inl (fun _ => 0))), (q_2, .inl (cI, 8, .inl (fun _ => 0))), (q_3, .inl (cI, 8, .inl (fun _ => 0))), (q_4, .inl (cI, 8, .inl (fun _ => 0))), (q_5, .inl (cI, 40, .inl (fun _ => 0))), (q_6, .inl (cI, 40, .inl (fun _ => 0))), (q_7, .inl (cI, 3, .inl (zL3 5 10 50))), (q_8, .inl (cI, 8, .inl (fun _ => 0))), (q_9, .inl (cI, 8, .inl (fun _ => 0))), (q_10, .inl (cI, 8, .inl (fun _ => 0))), (q_11, .inl (cI, 8, .inl (fun _ => 0))), (q_12, .inl (cJ, 1280, .inr (.inl (fun _ => 0)))), (q_13, .inl (cJ, 160, .inr (.inl (fun _ => 0)))), (q_14, .inl (cI, 64, .inl (upd (upd (upd (upd (upd (upd (upd (upd (upd (upd (upd (upd (upd (upd (upd (upd (upd (upd (upd (upd (upd (upd (upd (upd (upd (upd (upd (upd (upd (upd (upd (upd (upd (upd (upd (upd (upd (upd (upd (upd (upd (upd (upd (upd (upd (upd (upd (upd (upd (upd (upd (upd (upd (upd (upd (upd (upd (upd (upd (upd (upd (upd (upd (upd (fun _ => 0) (0 : Int32).toNatClampNeg 116) (1 : Int32).toNatClampNeg 101) (2 : Int32).toNatClampNeg 101) (3 : Int32).toNatClampNeg 116) (4 : Int32).toNatClampNeg 104) (5 : Int32).toNatClampNeg 32) (6 : Int32).toNatClampNeg 0) (7 : Int32).toNatClampNeg 108) (8 : Int32).toNatClampNeg 97) (9 : Int32).toNatClampNeg 99) (10 : Int32).toNatClampNeg 107) (11 : Int32).toNatClampNeg 32) (12 : Int32).toNatClampNeg 0) (13 : Int32).toNatClampNeg 115) (14 : Int32).toNatClampNeg 108) (15 : Int32).toNatClampNeg 97) (16 : Int32).toNatClampNeg 99) (17 : Int32).toNatClampNeg 107) (18 : Int32).toNatClampNeg 32) (19 : Int32).toNatClampNeg 0) (20 : Int32).toNatClampNeg 112) (21 : Int32).toNatClampNeg 117) (22 : Int32).toNatClampNeg 108) (23 : Int32).toNatClampNeg 108) (24 : Int32).toNatClampNeg 32) (25 : Int32).toNatClampNeg 0) (26 : Int32).toNatClampNeg 100) (27 : Int32).toNatClampNeg 101) (28 : Int32).toNatClampNeg 112) (29 : Int32).toNatClampNeg 116) (30 : Int32).toNatClampNeg 104) (31 : Int32).toNatClampNeg 32) (32 : Int32).toNatClampNeg 0) (33 : Int32).toNatClampNeg 115) (34 : Int32).toNatClampNeg 101) (35 : Int32).toNatClampNeg 99) (36 : Int32).toNatClampNeg 111) (37 : Int32).toNatClampNeg 110) (38 : Int32).toNatClampNeg 100) (39 : Int32).toNatClampNeg 115) (40 : Int32).toNatClampNeg 32) (41 : Int32).toNatClampNeg 0) (42 : Int32).toNatClampNeg 104) (43 : Int32).toNatClampNeg 117) (44 : Int32).toNatClampNeg 114) (45 : Int32).toNatClampNeg 114) (46 : Int32).toNatClampNeg 121) (47 : Int32).toNatClampNeg 32) (48 : Int32).toNatClampNeg 0) (49 : Int32).toNatClampNeg 103) (50 : Int32).toNatClampNeg 97) (51 : Int32).toNatClampNeg 112) (52 : Int32).toNatClampNeg 32) (53 : Int32).toNatClampNeg 0) (54 : Int32).toNatClampNeg 99) (55 : Int32).toNatClampNeg 111) (56 : Int32).toNatClampNeg 115) (57 : Int32).toNatClampNeg 116) (58 : Int32).toNatClampNeg 32) (59 : Int32).toNatClampNeg 0) (60 : Int32).toNatClampNeg 97) (61 : Int32).toNatClampNeg 116) (62 : Int32).toNatClampNeg 32) (63 : Int32).toNatClampNeg 0))), (q_15, .inl (cI, 10, .inl (fun _ => 0)))]) hP hD rfl
  clear hP hD
  obtain ⟨hP, hD⟩ := h9R
  refine W.widen (k := 15) (n := 1661) (Nat.le_of_ble_eq_true rfl) (Nat.le_of_ble_eq_true rfl) ?_
  refine lv_dup hx hb dX8_init_531 rfl ?_
  refine lv_iconst (v := 0) hx hb dX8_init_532 (by decide) ?_
  refine lv_iconst (v := 1) hx hb dX8_init_533 (by decide) ?_
  refine va_iast hx hb hK hP hD hS 15 0 rfl rfl (zf_in (by decide) (by decide)) dX8_init_534 (fun H locs hP hD hS => ?_)
  refine lv_dup hx hb dX8_init_535 rfl ?_
  refine lv_iconst (v := 1) hx hb dX8_init_536 (by decide) ?_
  refine lv_iconst (v := 1) hx hb dX8_init_537 (by decide) ?_
  refine va_iast hx hb hK hP hD hS 15 0 rfl rfl (zf_in (by decide) (by decide)) dX8_init_538 (fun H locs hP hD hS => ?_)
  have h9R := zRe (ws' := [(m0, .inr (8, (.int 0 :: .int 20 :: .int 0 :: .int 0 :: .int 0 :: .int 60 :: .int 0 :: .int 3 :: .int 1 :: .int (-1) :: .ref q_1 :: .ref q_2 :: .ref q_3 :: .ref q_4 :: .ref q_5 :: .ref q_6 :: .ref q_7 :: .ref q_8 :: .ref q_9 :: .ref q_10 :: .ref q_11 :: .ref q_12 :: .ref q_13 :: .ref q_14 :: .null :: .null :: .int 0 :: .int 0 :: .int 0 :: .int 0 :: .int 0 :: .null :: .null :: .null :: .null :: .null :: .int 0 :: .int 0 :: []))), (q_1, .inl (cI, 8, .inl (fun _ => 0))), (q_2, .inl (cI, 8, .inl (fun _ => 0))), (q_3, .inl (cI, 8, .inl (fun _ => 0))), (q_4, .inl (cI, 8, .inl (fun _ => 0))), (q_5, .inl (cI, 40, .inl (fun _ => 0))), (q_6, .inl (cI, 40, .inl (fun _ => 0))), (q_7, .inl (cI, 3, .inl (zL3 5 10 50))), (q_8, .inl (cI, 8, .inl (fun _ => 0))), (q_9, .inl (cI, 8, .inl (fun _ => 0))), (q_10, .inl (cI, 8, .inl (fun _ => 0))), (q_11, .inl (cI, 8, .inl (fun _ => 0))), (q_12, .inl (cJ, 1280, .inr (.inl (fun _ => 0)))), (q_13, .inl (cJ, 160, .inr (.inl (fun _ => 0)))), (q_14, .inl (cI, 64, .inl (upd (upd (upd (upd (upd (upd (upd (upd (upd (upd (upd (upd (upd (upd (upd (upd (upd (upd (upd (upd (upd (upd (upd (upd (upd (upd (upd (upd (upd (upd (upd (upd (upd (upd (upd (upd (upd (upd (upd (upd (upd (upd (upd (upd (upd (upd (upd (upd (upd (upd (upd (upd (upd (upd (upd (upd (upd (upd (upd (upd (upd (upd (upd (upd (fun _ => 0) (0 : Int32).toNatClampNeg 116) (1 : Int32).toNatClampNeg 101) (2 : Int32).toNatClampNeg 101) (3 : Int32).toNatClampNeg 116) (4 : Int32).toNatClampNeg 104) (5 : Int32).toNatClampNeg 32) (6 : Int32).toNatClampNeg 0) (7 : Int32).toNatClampNeg 108) (8 : Int32).toNatClampNeg 97) (9 : Int32).toNatClampNeg 99) (10 : Int32).toNatClampNeg 107) (11 : Int32).toNatClampNeg 32) (12 : Int32).toNatClampNeg 0) (13 : Int32).toNatClampNeg 115) (14 : Int32).toNatClampNeg 108) (15 : Int32).toNatClampNeg 97) (16 : Int32).toNatClampNeg 99) (17 : Int32).toNatClampNeg 107) (18 : Int32).toNatClampNeg 32) (19 : Int32).toNatClampNeg 0) (20 : Int32).toNatClampNeg 112) (21 : Int32).toNatClampNeg 117) (22 : Int32).toNatClampNeg 108) (23 : Int32).toNatClampNeg 108) (24 : Int32).toNatClampNeg 32) (25 : Int32).toNatClampNeg 0) (26 : Int32).toNatClampNeg 100) (27 : Int32).toNatClampNeg 101) (28 : Int32).toNatClampNeg 112) (29 : Int32).toNatClampNeg 116) (30 : Int32).toNatClampNeg 104) (31 : Int32).toNatClampNeg 32) (32 : Int32).toNatClampNeg 0) (33 : Int32).toNatClampNeg 115) (34 : Int32).toNatClampNeg 101) (35 : Int32).toNatClampNeg 99) (36 : Int32).toNatClampNeg 111) (37 : Int32).toNatClampNeg 110) (38 : Int32).toNatClampNeg 100) (39 : Int32).toNatClampNeg 115) (40 : Int32).toNatClampNeg 32) (41 : Int32).toNatClampNeg 0) (42 : Int32).toNatClampNeg 104) (43 : Int32).toNatClampNeg 117) (44 : Int32).toNatClampNeg 114) (45 : Int32).toNatClampNeg 114) (46 : Int32).toNatClampNeg 121) (47 : Int32).toNatClampNeg 32) (48 : Int32).toNatClampNeg 0) (49 : Int32).toNatClampNeg 103) (50 : Int32).toNatClampNeg 97) (51 : Int32).toNatClampNeg 112) (52 : Int32).toNatClampNeg 32) (53 : Int32).toNatClampNeg 0) (54 : Int32).toNatClampNeg 99) (55 : Int32).toNatClampNeg 111) (56 : Int32).toNatClampNeg 115) (57 : Int32).toNatClampNeg 116) (58 : Int32).toNatClampNeg 32) (59 : Int32).toNatClampNeg 0) (60 : Int32).toNatClampNeg 97) (61 : Int32).toNatClampNeg 116) (62 : Int32).toNatClampNeg 32) (63 : Int32).toNatClampNeg 0))), (q_15, .inl (cI, 10, .inl (upd (upd (fun _ => 0) (0 : Int32).toNatClampNeg 1) (1 : Int32).toNatClampNeg 1)))]) hP hD rfl
  clear hP hD
  obtain ⟨hP, hD⟩ := h9R
  refine lv_dup hx hb dX8_init_539 rfl ?_
  refine lv_iconst (v := 2) hx hb dX8_init_540 (by decide) ?_
  refine lv_iconst (v := 2) hx hb dX8_init_541 (by decide) ?_
  refine va_iast hx hb hK hP hD hS 15 0 rfl rfl (zf_in (by decide) (by decide)) dX8_init_542 (fun H locs hP hD hS => ?_)
  refine lv_dup hx hb dX8_init_543 rfl ?_
  refine lv_iconst (v := 3) hx hb dX8_init_544 (by decide) ?_
  refine lv_iconst (v := 3) hx hb dX8_init_545 (by decide) ?_
  refine va_iast hx hb hK hP hD hS 15 0 rfl rfl (zf_in (by decide) (by decide)) dX8_init_546 (fun H locs hP hD hS => ?_)
  refine lv_dup hx hb dX8_init_547 rfl ?_
  refine lv_iconst (v := 4) hx hb dX8_init_548 (by decide) ?_
  refine lv_iconst (v := 1) hx hb dX8_init_549 (by decide) ?_
  refine va_iast hx hb hK hP hD hS 15 0 rfl rfl (zf_in (by decide) (by decide)) dX8_init_550 (fun H locs hP hD hS => ?_)
  refine lv_dup hx hb dX8_init_551 rfl ?_
  refine lv_iconst (v := 5) hx hb dX8_init_552 (by decide) ?_
  refine lv_iconst (v := 1) hx hb dX8_init_553 (by decide) ?_
  refine va_iast hx hb hK hP hD hS 15 0 rfl rfl (zf_in (by decide) (by decide)) dX8_init_554 (fun H locs hP hD hS => ?_)
  refine lv_dup hx hb dX8_init_555 rfl ?_
  refine lv_bipush (v := 6) hx hb dX8_init_556 (by decide) ?_
  refine lv_iconst (v := 1) hx hb dX8_init_558 (by decide) ?_
  refine va_iast hx hb hK hP hD hS 15 0 rfl rfl (zf_in (by decide) (by decide)) dX8_init_559 (fun H locs hP hD hS => ?_)
  refine lv_dup hx hb dX8_init_560 rfl ?_
  refine lv_bipush (v := 7) hx hb dX8_init_561 (by decide) ?_
  refine lv_iconst (v := 1) hx hb dX8_init_563 (by decide) ?_
  refine va_iast hx hb hK hP hD hS 15 0 rfl rfl (zf_in (by decide) (by decide)) dX8_init_564 (fun H locs hP hD hS => ?_)
  have h9R := zRe (ws' := [(m0, .inr (8, (.int 0 :: .int 20 :: .int 0 :: .int 0 :: .int 0 :: .int 60 :: .int 0 :: .int 3 :: .int 1 :: .int (-1) :: .ref q_1 :: .ref q_2 :: .ref q_3 :: .ref q_4 :: .ref q_5 :: .ref q_6 :: .ref q_7 :: .ref q_8 :: .ref q_9 :: .ref q_10 :: .ref q_11 :: .ref q_12 :: .ref q_13 :: .ref q_14 :: .null :: .null :: .int 0 :: .int 0 :: .int 0 :: .int 0 :: .int 0 :: .null :: .null :: .null :: .null :: .null :: .int 0 :: .int 0 :: []))), (q_1, .inl (cI, 8, .inl (fun _ => 0))), (q_2, .inl (cI, 8, .inl (fun _ => 0))), (q_3, .inl (cI, 8, .inl (fun _ => 0))), (q_4, .inl (cI, 8, .inl (fun _ => 0))), (q_5, .inl (cI, 40, .inl (fun _ => 0))), (q_6, .inl (cI, 40, .inl (fun _ => 0))), (q_7, .inl (cI, 3, .inl (zL3 5 10 50))), (q_8, .inl (cI, 8, .inl (fun _ => 0))), (q_9, .inl (cI, 8, .inl (fun _ => 0))), (q_10, .inl (cI, 8, .inl (fun _ => 0))), (q_11, .inl (cI, 8, .inl (fun _ => 0))), (q_12, .inl (cJ, 1280, .inr (.inl (fun _ => 0)))), (q_13, .inl (cJ, 160, .inr (.inl (fun _ => 0)))), (q_14, .inl (cI, 64, .inl (upd (upd (upd (upd (upd (upd (upd (upd (upd (upd (upd (upd (upd (upd (upd (upd (upd (upd (upd (upd (upd (upd (upd (upd (upd (upd (upd (upd (upd (upd (upd (upd (upd (upd (upd (upd (upd (upd (upd (upd (upd (upd (upd (upd (upd (upd (upd (upd (upd (upd (upd (upd (upd (upd (upd (upd (upd (upd (upd (upd (upd (upd (upd (upd (fun _ => 0) (0 : Int32).toNatClampNeg 116) (1 : Int32).toNatClampNeg 101) (2 : Int32).toNatClampNeg 101) (3 : Int32).toNatClampNeg 116) (4 : Int32).toNatClampNeg 104) (5 : Int32).toNatClampNeg 32) (6 : Int32).toNatClampNeg 0) (7 : Int32).toNatClampNeg 108) (8 : Int32).toNatClampNeg 97) (9 : Int32).toNatClampNeg 99) (10 : Int32).toNatClampNeg 107) (11 : Int32).toNatClampNeg 32) (12 : Int32).toNatClampNeg 0) (13 : Int32).toNatClampNeg 115) (14 : Int32).toNatClampNeg 108) (15 : Int32).toNatClampNeg 97) (16 : Int32).toNatClampNeg 99) (17 : Int32).toNatClampNeg 107) (18 : Int32).toNatClampNeg 32) (19 : Int32).toNatClampNeg 0) (20 : Int32).toNatClampNeg 112) (21 : Int32).toNatClampNeg 117) (22 : Int32).toNatClampNeg 108) (23 : Int32).toNatClampNeg 108) (24 : Int32).toNatClampNeg 32) (25 : Int32).toNatClampNeg 0) (26 : Int32).toNatClampNeg 100) (27 : Int32).toNatClampNeg 101) (28 : Int32).toNatClampNeg 112) (29 : Int32).toNatClampNeg 116) (30 : Int32).toNatClampNeg 104) (31 : Int32).toNatClampNeg 32) (32 : Int32).toNatClampNeg 0) (33 : Int32).toNatClampNeg 115) (34 : Int32).toNatClampNeg 101) (35 : Int32).toNatClampNeg 99) (36 : Int32).toNatClampNeg 111) (37 : Int32).toNatClampNeg 110) (38 : Int32).toNatClampNeg 100) (39 : Int32).toNatClampNeg 115) (40 : Int32).toNatClampNeg 32) (41 : Int32).toNatClampNeg 0) (42 : Int32).toNatClampNeg 104) (43 : Int32).toNatClampNeg 117) (44 : Int32).toNatClampNeg 114) (45 : Int32).toNatClampNeg 114) (46 : Int32).toNatClampNeg 121) (47 : Int32).toNatClampNeg 32) (48 : Int32).toNatClampNeg 0) (49 : Int32).toNatClampNeg 103) (50 : Int32).toNatClampNeg 97) (51 : Int32).toNatClampNeg 112) (52 : Int32).toNatClampNeg 32) (53 : Int32).toNatClampNeg 0) (54 : Int32).toNatClampNeg 99) (55 : Int32).toNatClampNeg 111) (56 : Int32).toNatClampNeg 115) (57 : Int32).toNatClampNeg 116) (58 : Int32).toNatClampNeg 32) (59 : Int32).toNatClampNeg 0) (60 : Int32).toNatClampNeg 97) (61 : Int32).toNatClampNeg 116) (62 : Int32).toNatClampNeg 32) (63 : Int32).toNatClampNeg 0))), (q_15, .inl (cI, 10, .inl (upd (upd (upd (upd (upd (upd (upd (upd (fun _ => 0) (0 : Int32).toNatClampNeg 1) (1 : Int32).toNatClampNeg 1) (2 : Int32).toNatClampNeg 2) (3 : Int32).toNatClampNeg 3) (4 : Int32).toNatClampNeg 1) (5 : Int32).toNatClampNeg 1) (6 : Int32).toNatClampNeg 1) (7 : Int32).toNatClampNeg 1)))]) hP hD rfl
  clear hP hD
  obtain ⟨hP, hD⟩ := h9R
  refine lv_dup hx hb dX8_init_565 rfl ?_
  refine lv_bipush (v := 8) hx hb dX8_init_566 (by decide) ?_
  refine lv_iconst (v := 2) hx hb dX8_init_568 (by decide) ?_
  refine va_iast hx hb hK hP hD hS 15 0 rfl rfl (zf_in (by decide) (by decide)) dX8_init_569 (fun H locs hP hD hS => ?_)
  refine lv_dup hx hb dX8_init_570 rfl ?_
  refine lv_bipush (v := 9) hx hb dX8_init_571 (by decide) ?_
  refine lv_iconst (v := 1) hx hb dX8_init_573 (by decide) ?_
  refine va_iast hx hb hK hP hD hS 15 0 rfl rfl (zf_in (by decide) (by decide)) dX8_init_574 (fun H locs hP hD hS => ?_)
  have h9R := zRe (ws' := [(m0, .inr (8, (.int 0 :: .int 20 :: .int 0 :: .int 0 :: .int 0 :: .int 60 :: .int 0 :: .int 3 :: .int 1 :: .int (-1) :: .ref q_1 :: .ref q_2 :: .ref q_3 :: .ref q_4 :: .ref q_5 :: .ref q_6 :: .ref q_7 :: .ref q_8 :: .ref q_9 :: .ref q_10 :: .ref q_11 :: .ref q_12 :: .ref q_13 :: .ref q_14 :: .null :: .null :: .int 0 :: .int 0 :: .int 0 :: .int 0 :: .int 0 :: .null :: .null :: .null :: .null :: .null :: .int 0 :: .int 0 :: []))), (q_1, .inl (cI, 8, .inl (fun _ => 0))), (q_2, .inl (cI, 8, .inl (fun _ => 0))), (q_3, .inl (cI, 8, .inl (fun _ => 0))), (q_4, .inl (cI, 8, .inl (fun _ => 0))), (q_5, .inl (cI, 40, .inl (fun _ => 0))), (q_6, .inl (cI, 40, .inl (fun _ => 0))), (q_7, .inl (cI, 3, .inl (zL3 5 10 50))), (q_8, .inl (cI, 8, .inl (fun _ => 0))), (q_9, .inl (cI, 8, .inl (fun _ => 0))), (q_10, .inl (cI, 8, .inl (fun _ => 0))), (q_11, .inl (cI, 8, .inl (fun _ => 0))), (q_12, .inl (cJ, 1280, .inr (.inl (fun _ => 0)))), (q_13, .inl (cJ, 160, .inr (.inl (fun _ => 0)))), (q_14, .inl (cI, 64, .inl (upd (upd (upd (upd (upd (upd (upd (upd (upd (upd (upd (upd (upd (upd (upd (upd (upd (upd (upd (upd (upd (upd (upd (upd (upd (upd (upd (upd (upd (upd (upd (upd (upd (upd (upd (upd (upd (upd (upd (upd (upd (upd (upd (upd (upd (upd (upd (upd (upd (upd (upd (upd (upd (upd (upd (upd (upd (upd (upd (upd (upd (upd (upd (upd (fun _ => 0) (0 : Int32).toNatClampNeg 116) (1 : Int32).toNatClampNeg 101) (2 : Int32).toNatClampNeg 101) (3 : Int32).toNatClampNeg 116) (4 : Int32).toNatClampNeg 104) (5 : Int32).toNatClampNeg 32) (6 : Int32).toNatClampNeg 0) (7 : Int32).toNatClampNeg 108) (8 : Int32).toNatClampNeg 97) (9 : Int32).toNatClampNeg 99) (10 : Int32).toNatClampNeg 107) (11 : Int32).toNatClampNeg 32) (12 : Int32).toNatClampNeg 0) (13 : Int32).toNatClampNeg 115) (14 : Int32).toNatClampNeg 108) (15 : Int32).toNatClampNeg 97) (16 : Int32).toNatClampNeg 99) (17 : Int32).toNatClampNeg 107) (18 : Int32).toNatClampNeg 32) (19 : Int32).toNatClampNeg 0) (20 : Int32).toNatClampNeg 112) (21 : Int32).toNatClampNeg 117) (22 : Int32).toNatClampNeg 108) (23 : Int32).toNatClampNeg 108) (24 : Int32).toNatClampNeg 32) (25 : Int32).toNatClampNeg 0) (26 : Int32).toNatClampNeg 100) (27 : Int32).toNatClampNeg 101) (28 : Int32).toNatClampNeg 112) (29 : Int32).toNatClampNeg 116) (30 : Int32).toNatClampNeg 104) (31 : Int32).toNatClampNeg 32) (32 : Int32).toNatClampNeg 0) (33 : Int32).toNatClampNeg 115) (34 : Int32).toNatClampNeg 101) (35 : Int32).toNatClampNeg 99) (36 : Int32).toNatClampNeg 111) (37 : Int32).toNatClampNeg 110) (38 : Int32).toNatClampNeg 100) (39 : Int32).toNatClampNeg 115) (40 : Int32).toNatClampNeg 32) (41 : Int32).toNatClampNeg 0) (42 : Int32).toNatClampNeg 104) (43 : Int32).toNatClampNeg 117) (44 : Int32).toNatClampNeg 114) (45 : Int32).toNatClampNeg 114) (46 : Int32).toNatClampNeg 121) (47 : Int32).toNatClampNeg 32) (48 : Int32).toNatClampNeg 0) (49 : Int32).toNatClampNeg 103) (50 : Int32).toNatClampNeg 97) (51 : Int32).toNatClampNeg 112) (52 : Int32).toNatClampNeg 32) (53 : Int32).toNatClampNeg 0) (54 : Int32).toNatClampNeg 99) (55 : Int32).toNatClampNeg 111) (56 : Int32).toNatClampNeg 115) (57 : Int32).toNatClampNeg 116) (58 : Int32).toNatClampNeg 32) (59 : Int32).toNatClampNeg 0) (60 : Int32).toNatClampNeg 97) (61 : Int32).toNatClampNeg 116) (62 : Int32).toNatClampNeg 32) (63 : Int32).toNatClampNeg 0))), (q_15, .inl (cI, 10, .inl (upd (upd (upd (upd (upd (upd (upd (upd (upd (upd (fun _ => 0) (0 : Int32).toNatClampNeg 1) (1 : Int32).toNatClampNeg 1) (2 : Int32).toNatClampNeg 2) (3 : Int32).toNatClampNeg 3) (4 : Int32).toNatClampNeg 1) (5 : Int32).toNatClampNeg 1) (6 : Int32).toNatClampNeg 1) (7 : Int32).toNatClampNeg 1) (8 : Int32).toNatClampNeg 2) (9 : Int32).toNatClampNeg 1)))]) hP hD rfl
  clear hP hD
  obtain ⟨hP, hD⟩ := h9R
  refine va_putF (D := D) (ci := 8) (v := .ref q_15) (ty := (.array .int)) (C := RX8) (T := TX8) (N := 38) hx hb hts hi_X8_init_8 tyX8 tyX8_ok nmX8 hown hK hP hD hS 0 rfl rfl 24 (by decide) (hts (.fieldLink RX8 69 "TheLiningsInItModel" "numbers" "[I") (List.mem_of_getElem? (i := 25) rfl)) (fun _ h9 => h9) rfl hin rfl (tyX8_ok 24 (Nat.le_of_ble_eq_true rfl)) rfl rfl (Nat.le_of_ble_eq_true rfl) dX8_init_575 (fun H locs hP hD hS => ?_)
  have h9R := zRe (ws' := [(m0, .inr (8, (.int 0 :: .int 20 :: .int 0 :: .int 0 :: .int 0 :: .int 60 :: .int 0 :: .int 3 :: .int 1 :: .int (-1) :: .ref q_1 :: .ref q_2 :: .ref q_3 :: .ref q_4 :: .ref q_5 :: .ref q_6 :: .ref q_7 :: .ref q_8 :: .ref q_9 :: .ref q_10 :: .ref q_11 :: .ref q_12 :: .ref q_13 :: .ref q_14 :: .ref q_15 :: .null :: .int 0 :: .int 0 :: .int 0 :: .int 0 :: .int 0 :: .null :: .null :: .null :: .null :: .null :: .int 0 :: .int 0 :: []))), (q_1, .inl (cI, 8, .inl (fun _ => 0))), (q_2, .inl (cI, 8, .inl (fun _ => 0))), (q_3, .inl (cI, 8, .inl (fun _ => 0))), (q_4, .inl (cI, 8, .inl (fun _ => 0))), (q_5, .inl (cI, 40, .inl (fun _ => 0))), (q_6, .inl (cI, 40, .inl (fun _ => 0))), (q_7, .inl (cI, 3, .inl (zL3 5 10 50))), (q_8, .inl (cI, 8, .inl (fun _ => 0))), (q_9, .inl (cI, 8, .inl (fun _ => 0))), (q_10, .inl (cI, 8, .inl (fun _ => 0))), (q_11, .inl (cI, 8, .inl (fun _ => 0))), (q_12, .inl (cJ, 1280, .inr (.inl (fun _ => 0)))), (q_13, .inl (cJ, 160, .inr (.inl (fun _ => 0)))), (q_14, .inl (cI, 64, .inl (upd (upd (upd (upd (upd (upd (upd (upd (upd (upd (upd (upd (upd (upd (upd (upd (upd (upd (upd (upd (upd (upd (upd (upd (upd (upd (upd (upd (upd (upd (upd (upd (upd (upd (upd (upd (upd (upd (upd (upd (upd (upd (upd (upd (upd (upd (upd (upd (upd (upd (upd (upd (upd (upd (upd (upd (upd (upd (upd (upd (upd (upd (upd (upd (fun _ => 0) (0 : Int32).toNatClampNeg 116) (1 : Int32).toNatClampNeg 101) (2 : Int32).toNatClampNeg 101) (3 : Int32).toNatClampNeg 116) (4 : Int32).toNatClampNeg 104) (5 : Int32).toNatClampNeg 32) (6 : Int32).toNatClampNeg 0) (7 : Int32).toNatClampNeg 108) (8 : Int32).toNatClampNeg 97) (9 : Int32).toNatClampNeg 99) (10 : Int32).toNatClampNeg 107) (11 : Int32).toNatClampNeg 32) (12 : Int32).toNatClampNeg 0) (13 : Int32).toNatClampNeg 115) (14 : Int32).toNatClampNeg 108) (15 : Int32).toNatClampNeg 97) (16 : Int32).toNatClampNeg 99) (17 : Int32).toNatClampNeg 107) (18 : Int32).toNatClampNeg 32) (19 : Int32).toNatClampNeg 0) (20 : Int32).toNatClampNeg 112) (21 : Int32).toNatClampNeg 117) (22 : Int32).toNatClampNeg 108) (23 : Int32).toNatClampNeg 108) (24 : Int32).toNatClampNeg 32) (25 : Int32).toNatClampNeg 0) (26 : Int32).toNatClampNeg 100) (27 : Int32).toNatClampNeg 101) (28 : Int32).toNatClampNeg 112) (29 : Int32).toNatClampNeg 116) (30 : Int32).toNatClampNeg 104) (31 : Int32).toNatClampNeg 32) (32 : Int32).toNatClampNeg 0) (33 : Int32).toNatClampNeg 115) (34 : Int32).toNatClampNeg 101) (35 : Int32).toNatClampNeg 99) (36 : Int32).toNatClampNeg 111) (37 : Int32).toNatClampNeg 110) (38 : Int32).toNatClampNeg 100) (39 : Int32).toNatClampNeg 115) (40 : Int32).toNatClampNeg 32) (41 : Int32).toNatClampNeg 0) (42 : Int32).toNatClampNeg 104) (43 : Int32).toNatClampNeg 117) (44 : Int32).toNatClampNeg 114) (45 : Int32).toNatClampNeg 114) (46 : Int32).toNatClampNeg 121) (47 : Int32).toNatClampNeg 32) (48 : Int32).toNatClampNeg 0) (49 : Int32).toNatClampNeg 103) (50 : Int32).toNatClampNeg 97) (51 : Int32).toNatClampNeg 112) (52 : Int32).toNatClampNeg 32) (53 : Int32).toNatClampNeg 0) (54 : Int32).toNatClampNeg 99) (55 : Int32).toNatClampNeg 111) (56 : Int32).toNatClampNeg 115) (57 : Int32).toNatClampNeg 116) (58 : Int32).toNatClampNeg 32) (59 : Int32).toNatClampNeg 0) (60 : Int32).toNatClampNeg 97) (61 : Int32).toNatClampNeg 116) (62 : Int32).toNatClampNeg 32) (63 : Int32).toNatClampNeg 0))), (q_15, .inl (cI, 10, .inl (upd (upd (upd (upd (upd (upd (upd (upd (upd (upd (fun _ => 0) (0 : Int32).toNatClampNeg 1) (1 : Int32).toNatClampNeg 1) (2 : Int32).toNatClampNeg 2) (3 : Int32).toNatClampNeg 3) (4 : Int32).toNatClampNeg 1) (5 : Int32).toNatClampNeg 1) (6 : Int32).toNatClampNeg 1) (7 : Int32).toNatClampNeg 1) (8 : Int32).toNatClampNeg 2) (9 : Int32).toNatClampNeg 1)))]) hP hD rfl
  clear hP hD
  obtain ⟨hP, hD⟩ := h9R
  refine lv_aload_n hx hb dX8_init_578 rfl (lv_at hl 0 rfl) ?_
  refine lv_iconst (v := 3) hx hb dX8_init_579 (by decide) ?_
  refine va_newa hx hb (atype := .int) (hts _ (List.mem_of_getElem? (i := 9) rfl)) rfl hK hP hD hS hA (N' := 3) (a0 := (3, .inl (fun _ => 0))) (fun _ => rfl) (by decide) (by decide) (Nat.le_of_ble_eq_true rfl) (Nat.le_of_ble_eq_true rfl) (Nat.le_of_ble_eq_true rfl) dX8_init_580 (fun q_16 cA H hK1 hP hD hS => ?_)
  obtain rfl : cI = cA := zk_eqI (k := 0) hK rfl hK1
  have h9R := zRe (ws' := [(m0, .inr (8, (.int 0 :: .int 20 :: .int 0 :: .int 0 :: .int 0 :: .int 60 :: .int 0 :: .int 3 :: .int 1 :: .int (-1) :: .ref q_1 :: .ref q_2 :: .ref q_3 :: .ref q_4 :: .ref q_5 :: .ref q_6 :: .ref q_7 :: .ref q_8 :: .ref q_9 :: .ref q_10 :: .ref q_11 :: .ref q_12 :: .ref q_13 :: .ref q_14 :: .ref q_15 :: .null :: .int 0 :: .int 0 :: .int 0 :: .int 0 :: .int 0 :: .null :: .null :: .null :: .null :: .null :: .int 0 :: .int 0 :: []))), (q_1, .inl (cI, 8, .inl (fun _ => 0))), (q_2, .inl (cI, 8, .inl (fun _ => 0))), (q_3, .inl (cI, 8, .inl (fun _ => 0))), (q_4, .inl (cI, 8, .inl (fun _ => 0))), (q_5, .inl (cI, 40, .inl (fun _ => 0))), (q_6, .inl (cI, 40, .inl (fun _ => 0))), (q_7, .inl (cI, 3, .inl (zL3 5 10 50))), (q_8, .inl (cI, 8, .inl (fun _ => 0))), (q_9, .inl (cI, 8, .inl (fun _ => 0))), (q_10, .inl (cI, 8, .inl (fun _ => 0))), (q_11, .inl (cI, 8, .inl (fun _ => 0))), (q_12, .inl (cJ, 1280, .inr (.inl (fun _ => 0)))), (q_13, .inl (cJ, 160, .inr (.inl (fun _ => 0)))), (q_14, .inl (cI, 64, .inl (upd (upd (upd (upd (upd (upd (upd (upd (upd (upd (upd (upd (upd (upd (upd (upd (upd (upd (upd (upd (upd (upd (upd (upd (upd (upd (upd (upd (upd (upd (upd (upd (upd (upd (upd (upd (upd (upd (upd (upd (upd (upd (upd (upd (upd (upd (upd (upd (upd (upd (upd (upd (upd (upd (upd (upd (upd (upd (upd (upd (upd (upd (upd (upd (fun _ => 0) (0 : Int32).toNatClampNeg 116) (1 : Int32).toNatClampNeg 101) (2 : Int32).toNatClampNeg 101) (3 : Int32).toNatClampNeg 116) (4 : Int32).toNatClampNeg 104) (5 : Int32).toNatClampNeg 32) (6 : Int32).toNatClampNeg 0) (7 : Int32).toNatClampNeg 108) (8 : Int32).toNatClampNeg 97) (9 : Int32).toNatClampNeg 99) (10 : Int32).toNatClampNeg 107) (11 : Int32).toNatClampNeg 32) (12 : Int32).toNatClampNeg 0) (13 : Int32).toNatClampNeg 115) (14 : Int32).toNatClampNeg 108) (15 : Int32).toNatClampNeg 97) (16 : Int32).toNatClampNeg 99) (17 : Int32).toNatClampNeg 107) (18 : Int32).toNatClampNeg 32) (19 : Int32).toNatClampNeg 0) (20 : Int32).toNatClampNeg 112) (21 : Int32).toNatClampNeg 117) (22 : Int32).toNatClampNeg 108) (23 : Int32).toNatClampNeg 108) (24 : Int32).toNatClampNeg 32) (25 : Int32).toNatClampNeg 0) (26 : Int32).toNatClampNeg 100) (27 : Int32).toNatClampNeg 101) (28 : Int32).toNatClampNeg 112) (29 : Int32).toNatClampNeg 116) (30 : Int32).toNatClampNeg 104) (31 : Int32).toNatClampNeg 32) (32 : Int32).toNatClampNeg 0) (33 : Int32).toNatClampNeg 115) (34 : Int32).toNatClampNeg 101) (35 : Int32).toNatClampNeg 99) (36 : Int32).toNatClampNeg 111) (37 : Int32).toNatClampNeg 110) (38 : Int32).toNatClampNeg 100) (39 : Int32).toNatClampNeg 115) (40 : Int32).toNatClampNeg 32) (41 : Int32).toNatClampNeg 0) (42 : Int32).toNatClampNeg 104) (43 : Int32).toNatClampNeg 117) (44 : Int32).toNatClampNeg 114) (45 : Int32).toNatClampNeg 114) (46 : Int32).toNatClampNeg 121) (47 : Int32).toNatClampNeg 32) (48 : Int32).toNatClampNeg 0) (49 : Int32).toNatClampNeg 103) (50 : Int32).toNatClampNeg 97) (51 : Int32).toNatClampNeg 112) (52 : Int32).toNatClampNeg 32) (53 : Int32).toNatClampNeg 0) (54 : Int32).toNatClampNeg 99) (55 : Int32).toNatClampNeg 111) (56 : Int32).toNatClampNeg 115) (57 : Int32).toNatClampNeg 116) (58 : Int32).toNatClampNeg 32) (59 : Int32).toNatClampNeg 0) (60 : Int32).toNatClampNeg 97) (61 : Int32).toNatClampNeg 116) (62 : Int32).toNatClampNeg 32) (63 : Int32).toNatClampNeg 0))), (q_15, .inl (cI, 10, .inl (upd (upd (upd (upd (upd (upd (upd (upd (upd (upd (fun _ => 0) (0 : Int32).toNatClampNeg 1) (1 : Int32).toNatClampNeg 1) (2 : Int32).toNatClampNeg 2) (3 : Int32).toNatClampNeg 3) (4 : Int32).toNatClampNeg 1) (5 : Int32).toNatClampNeg 1) (6 : Int32).toNatClampNeg 1) (7 : Int32).toNatClampNeg 1) (8 : Int32).toNatClampNeg 2) (9 : Int32).toNatClampNeg 1))), (q_16, .inl (cI, 3, .inl (fun _ => 0)))]) hP hD rfl
  clear hP hD
  obtain ⟨hP, hD⟩ := h9R
  refine W.widen (k := 16) (n := 1664) (Nat.le_of_ble_eq_true rfl) (Nat.le_of_ble_eq_true rfl) ?_
  refine va_putF (D := D) (ci := 8) (v := .ref q_16) (ty := (.array .int)) (C := RX8) (T := TX8) (N := 38) hx hb hts hi_X8_init_8 tyX8 tyX8_ok nmX8 hown hK hP hD hS 0 rfl rfl 25 (by decide) (hts (.fieldLink RX8 72 "TheLiningsInItModel" "tell" "[I") (List.mem_of_getElem? (i := 26) rfl)) (fun _ h9 => h9) rfl hin rfl (tyX8_ok 25 (Nat.le_of_ble_eq_true rfl)) rfl rfl (Nat.le_of_ble_eq_true rfl) dX8_init_582 (fun H locs hP hD hS => ?_)
  have h9R := zRe (ws' := [(m0, .inr (8, (.int 0 :: .int 20 :: .int 0 :: .int 0 :: .int 0 :: .int 60 :: .int 0 :: .int 3 :: .int 1 :: .int (-1) :: .ref q_1 :: .ref q_2 :: .ref q_3 :: .ref q_4 :: .ref q_5 :: .ref q_6 :: .ref q_7 :: .ref q_8 :: .ref q_9 :: .ref q_10 :: .ref q_11 :: .ref q_12 :: .ref q_13 :: .ref q_14 :: .ref q_15 :: .ref q_16 :: .int 0 :: .int 0 :: .int 0 :: .int 0 :: .int 0 :: .null :: .null :: .null :: .null :: .null :: .int 0 :: .int 0 :: []))), (q_1, .inl (cI, 8, .inl (fun _ => 0))), (q_2, .inl (cI, 8, .inl (fun _ => 0))), (q_3, .inl (cI, 8, .inl (fun _ => 0))), (q_4, .inl (cI, 8, .inl (fun _ => 0))), (q_5, .inl (cI, 40, .inl (fun _ => 0))), (q_6, .inl (cI, 40, .inl (fun _ => 0))), (q_7, .inl (cI, 3, .inl (zL3 5 10 50))), (q_8, .inl (cI, 8, .inl (fun _ => 0))), (q_9, .inl (cI, 8, .inl (fun _ => 0))), (q_10, .inl (cI, 8, .inl (fun _ => 0))), (q_11, .inl (cI, 8, .inl (fun _ => 0))), (q_12, .inl (cJ, 1280, .inr (.inl (fun _ => 0)))), (q_13, .inl (cJ, 160, .inr (.inl (fun _ => 0)))), (q_14, .inl (cI, 64, .inl (upd (upd (upd (upd (upd (upd (upd (upd (upd (upd (upd (upd (upd (upd (upd (upd (upd (upd (upd (upd (upd (upd (upd (upd (upd (upd (upd (upd (upd (upd (upd (upd (upd (upd (upd (upd (upd (upd (upd (upd (upd (upd (upd (upd (upd (upd (upd (upd (upd (upd (upd (upd (upd (upd (upd (upd (upd (upd (upd (upd (upd (upd (upd (upd (fun _ => 0) (0 : Int32).toNatClampNeg 116) (1 : Int32).toNatClampNeg 101) (2 : Int32).toNatClampNeg 101) (3 : Int32).toNatClampNeg 116) (4 : Int32).toNatClampNeg 104) (5 : Int32).toNatClampNeg 32) (6 : Int32).toNatClampNeg 0) (7 : Int32).toNatClampNeg 108) (8 : Int32).toNatClampNeg 97) (9 : Int32).toNatClampNeg 99) (10 : Int32).toNatClampNeg 107) (11 : Int32).toNatClampNeg 32) (12 : Int32).toNatClampNeg 0) (13 : Int32).toNatClampNeg 115) (14 : Int32).toNatClampNeg 108) (15 : Int32).toNatClampNeg 97) (16 : Int32).toNatClampNeg 99) (17 : Int32).toNatClampNeg 107) (18 : Int32).toNatClampNeg 32) (19 : Int32).toNatClampNeg 0) (20 : Int32).toNatClampNeg 112) (21 : Int32).toNatClampNeg 117) (22 : Int32).toNatClampNeg 108) (23 : Int32).toNatClampNeg 108) (24 : Int32).toNatClampNeg 32) (25 : Int32).toNatClampNeg 0) (26 : Int32).toNatClampNeg 100) (27 : Int32).toNatClampNeg 101) (28 : Int32).toNatClampNeg 112) (29 : Int32).toNatClampNeg 116) (30 : Int32).toNatClampNeg 104) (31 : Int32).toNatClampNeg 32) (32 : Int32).toNatClampNeg 0) (33 : Int32).toNatClampNeg 115) (34 : Int32).toNatClampNeg 101) (35 : Int32).toNatClampNeg 99) (36 : Int32).toNatClampNeg 111) (37 : Int32).toNatClampNeg 110) (38 : Int32).toNatClampNeg 100) (39 : Int32).toNatClampNeg 115) (40 : Int32).toNatClampNeg 32) (41 : Int32).toNatClampNeg 0) (42 : Int32).toNatClampNeg 104) (43 : Int32).toNatClampNeg 117) (44 : Int32).toNatClampNeg 114) (45 : Int32).toNatClampNeg 114) (46 : Int32).toNatClampNeg 121) (47 : Int32).toNatClampNeg 32) (48 : Int32).toNatClampNeg 0) (49 : Int32).toNatClampNeg 103) (50 : Int32).toNatClampNeg 97) (51 : Int32).toNatClampNeg 112) (52 : Int32).toNatClampNeg 32) (53 : Int32).toNatClampNeg 0) (54 : Int32).toNatClampNeg 99) (55 : Int32).toNatClampNeg 111) (56 : Int32).toNatClampNeg 115) (57 : Int32).toNatClampNeg 116) (58 : Int32).toNatClampNeg 32) (59 : Int32).toNatClampNeg 0) (60 : Int32).toNatClampNeg 97) (61 : Int32).toNatClampNeg 116) (62 : Int32).toNatClampNeg 32) (63 : Int32).toNatClampNeg 0))), (q_15, .inl (cI, 10, .inl (upd (upd (upd (upd (upd (upd (upd (upd (upd (upd (fun _ => 0) (0 : Int32).toNatClampNeg 1) (1 : Int32).toNatClampNeg 1) (2 : Int32).toNatClampNeg 2) (3 : Int32).toNatClampNeg 3) (4 : Int32).toNatClampNeg 1) (5 : Int32).toNatClampNeg 1) (6 : Int32).toNatClampNeg 1) (7 : Int32).toNatClampNeg 1) (8 : Int32).toNatClampNeg 2) (9 : Int32).toNatClampNeg 1))), (q_16, .inl (cI, 3, .inl (fun _ => 0)))]) hP hD rfl
  clear hP hD
  obtain ⟨hP, hD⟩ := h9R
  refine lv_aload_n hx hb dX8_init_585 rfl (lv_at hl 0 rfl) ?_
  refine lv_sipush (v := 130) hx hb dX8_init_586 (by decide) ?_
  refine va_newa hx hb (atype := .int) (hts _ (List.mem_of_getElem? (i := 9) rfl)) rfl hK hP hD hS hA (N' := 130) (a0 := (130, .inl (fun _ => 0))) (fun _ => rfl) (by decide) (by decide) (Nat.le_of_ble_eq_true rfl) (Nat.le_of_ble_eq_true rfl) (Nat.le_of_ble_eq_true rfl) dX8_init_589 (fun q_17 cA H hK1 hP hD hS => ?_)
  obtain rfl : cI = cA := zk_eqI (k := 0) hK rfl hK1
  have h9R := zRe (ws' := [(m0, .inr (8, (.int 0 :: .int 20 :: .int 0 :: .int 0 :: .int 0 :: .int 60 :: .int 0 :: .int 3 :: .int 1 :: .int (-1) :: .ref q_1 :: .ref q_2 :: .ref q_3 :: .ref q_4 :: .ref q_5 :: .ref q_6 :: .ref q_7 :: .ref q_8 :: .ref q_9 :: .ref q_10 :: .ref q_11 :: .ref q_12 :: .ref q_13 :: .ref q_14 :: .ref q_15 :: .ref q_16 :: .int 0 :: .int 0 :: .int 0 :: .int 0 :: .int 0 :: .null :: .null :: .null :: .null :: .null :: .int 0 :: .int 0 :: []))), (q_1, .inl (cI, 8, .inl (fun _ => 0))), (q_2, .inl (cI, 8, .inl (fun _ => 0))), (q_3, .inl (cI, 8, .inl (fun _ => 0))), (q_4, .inl (cI, 8, .inl (fun _ => 0))), (q_5, .inl (cI, 40, .inl (fun _ => 0))), (q_6, .inl (cI, 40, .inl (fun _ => 0))), (q_7, .inl (cI, 3, .inl (zL3 5 10 50))), (q_8, .inl (cI, 8, .inl (fun _ => 0))), (q_9, .inl (cI, 8, .inl (fun _ => 0))), (q_10, .inl (cI, 8, .inl (fun _ => 0))), (q_11, .inl (cI, 8, .inl (fun _ => 0))), (q_12, .inl (cJ, 1280, .inr (.inl (fun _ => 0)))), (q_13, .inl (cJ, 160, .inr (.inl (fun _ => 0)))), (q_14, .inl (cI, 64, .inl (upd (upd (upd (upd (upd (upd (upd (upd (upd (upd (upd (upd (upd (upd (upd (upd (upd (upd (upd (upd (upd (upd (upd (upd (upd (upd (upd (upd (upd (upd (upd (upd (upd (upd (upd (upd (upd (upd (upd (upd (upd (upd (upd (upd (upd (upd (upd (upd (upd (upd (upd (upd (upd (upd (upd (upd (upd (upd (upd (upd (upd (upd (upd (upd (fun _ => 0) (0 : Int32).toNatClampNeg 116) (1 : Int32).toNatClampNeg 101) (2 : Int32).toNatClampNeg 101) (3 : Int32).toNatClampNeg 116) (4 : Int32).toNatClampNeg 104) (5 : Int32).toNatClampNeg 32) (6 : Int32).toNatClampNeg 0) (7 : Int32).toNatClampNeg 108) (8 : Int32).toNatClampNeg 97) (9 : Int32).toNatClampNeg 99) (10 : Int32).toNatClampNeg 107) (11 : Int32).toNatClampNeg 32) (12 : Int32).toNatClampNeg 0) (13 : Int32).toNatClampNeg 115) (14 : Int32).toNatClampNeg 108) (15 : Int32).toNatClampNeg 97) (16 : Int32).toNatClampNeg 99) (17 : Int32).toNatClampNeg 107) (18 : Int32).toNatClampNeg 32) (19 : Int32).toNatClampNeg 0) (20 : Int32).toNatClampNeg 112) (21 : Int32).toNatClampNeg 117) (22 : Int32).toNatClampNeg 108) (23 : Int32).toNatClampNeg 108) (24 : Int32).toNatClampNeg 32) (25 : Int32).toNatClampNeg 0) (26 : Int32).toNatClampNeg 100) (27 : Int32).toNatClampNeg 101) (28 : Int32).toNatClampNeg 112) (29 : Int32).toNatClampNeg 116) (30 : Int32).toNatClampNeg 104) (31 : Int32).toNatClampNeg 32) (32 : Int32).toNatClampNeg 0) (33 : Int32).toNatClampNeg 115) (34 : Int32).toNatClampNeg 101) (35 : Int32).toNatClampNeg 99) (36 : Int32).toNatClampNeg 111) (37 : Int32).toNatClampNeg 110) (38 : Int32).toNatClampNeg 100) (39 : Int32).toNatClampNeg 115) (40 : Int32).toNatClampNeg 32) (41 : Int32).toNatClampNeg 0) (42 : Int32).toNatClampNeg 104) (43 : Int32).toNatClampNeg 117) (44 : Int32).toNatClampNeg 114) (45 : Int32).toNatClampNeg 114) (46 : Int32).toNatClampNeg 121) (47 : Int32).toNatClampNeg 32) (48 : Int32).toNatClampNeg 0) (49 : Int32).toNatClampNeg 103) (50 : Int32).toNatClampNeg 97) (51 : Int32).toNatClampNeg 112) (52 : Int32).toNatClampNeg 32) (53 : Int32).toNatClampNeg 0) (54 : Int32).toNatClampNeg 99) (55 : Int32).toNatClampNeg 111) (56 : Int32).toNatClampNeg 115) (57 : Int32).toNatClampNeg 116) (58 : Int32).toNatClampNeg 32) (59 : Int32).toNatClampNeg 0) (60 : Int32).toNatClampNeg 97) (61 : Int32).toNatClampNeg 116) (62 : Int32).toNatClampNeg 32) (63 : Int32).toNatClampNeg 0))), (q_15, .inl (cI, 10, .inl (upd (upd (upd (upd (upd (upd (upd (upd (upd (upd (fun _ => 0) (0 : Int32).toNatClampNeg 1) (1 : Int32).toNatClampNeg 1) (2 : Int32).toNatClampNeg 2) (3 : Int32).toNatClampNeg 3) (4 : Int32).toNatClampNeg 1) (5 : Int32).toNatClampNeg 1) (6 : Int32).toNatClampNeg 1) (7 : Int32).toNatClampNeg 1) (8 : Int32).toNatClampNeg 2) (9 : Int32).toNatClampNeg 1))), (q_16, .inl (cI, 3, .inl (fun _ => 0))), (q_17, .inl (cI, 130, .inl (fun _ => 0)))]) hP hD rfl
  clear hP hD
  obtain ⟨hP, hD⟩ := h9R
  refine W.widen (k := 17) (n := 1794) (Nat.le_of_ble_eq_true rfl) (Nat.le_of_ble_eq_true rfl) ?_
  refine va_putF (D := D) (ci := 8) (v := .ref q_17) (ty := (.array .int)) (C := RX8) (T := TX8) (N := 38) hx hb hts hi_X8_init_8 tyX8 tyX8_ok nmX8 hown hK hP hD hS 0 rfl rfl 31 (by decide) (hts (.fieldLink RX8 75 "TheLiningsInItModel" "was" "[I") (List.mem_of_getElem? (i := 27) rfl)) (fun _ h9 => h9) rfl hin rfl (tyX8_ok 31 (Nat.le_of_ble_eq_true rfl)) rfl rfl (Nat.le_of_ble_eq_true rfl) dX8_init_591 (fun H locs hP hD hS => ?_)
  have h9R := zRe (ws' := [(m0, .inr (8, (.int 0 :: .int 20 :: .int 0 :: .int 0 :: .int 0 :: .int 60 :: .int 0 :: .int 3 :: .int 1 :: .int (-1) :: .ref q_1 :: .ref q_2 :: .ref q_3 :: .ref q_4 :: .ref q_5 :: .ref q_6 :: .ref q_7 :: .ref q_8 :: .ref q_9 :: .ref q_10 :: .ref q_11 :: .ref q_12 :: .ref q_13 :: .ref q_14 :: .ref q_15 :: .ref q_16 :: .int 0 :: .int 0 :: .int 0 :: .int 0 :: .int 0 :: .ref q_17 :: .null :: .null :: .null :: .null :: .int 0 :: .int 0 :: []))), (q_1, .inl (cI, 8, .inl (fun _ => 0))), (q_2, .inl (cI, 8, .inl (fun _ => 0))), (q_3, .inl (cI, 8, .inl (fun _ => 0))), (q_4, .inl (cI, 8, .inl (fun _ => 0))), (q_5, .inl (cI, 40, .inl (fun _ => 0))), (q_6, .inl (cI, 40, .inl (fun _ => 0))), (q_7, .inl (cI, 3, .inl (zL3 5 10 50))), (q_8, .inl (cI, 8, .inl (fun _ => 0))), (q_9, .inl (cI, 8, .inl (fun _ => 0))), (q_10, .inl (cI, 8, .inl (fun _ => 0))), (q_11, .inl (cI, 8, .inl (fun _ => 0))), (q_12, .inl (cJ, 1280, .inr (.inl (fun _ => 0)))), (q_13, .inl (cJ, 160, .inr (.inl (fun _ => 0)))), (q_14, .inl (cI, 64, .inl (upd (upd (upd (upd (upd (upd (upd (upd (upd (upd (upd (upd (upd (upd (upd (upd (upd (upd (upd (upd (upd (upd (upd (upd (upd (upd (upd (upd (upd (upd (upd (upd (upd (upd (upd (upd (upd (upd (upd (upd (upd (upd (upd (upd (upd (upd (upd (upd (upd (upd (upd (upd (upd (upd (upd (upd (upd (upd (upd (upd (upd (upd (upd (upd (fun _ => 0) (0 : Int32).toNatClampNeg 116) (1 : Int32).toNatClampNeg 101) (2 : Int32).toNatClampNeg 101) (3 : Int32).toNatClampNeg 116) (4 : Int32).toNatClampNeg 104) (5 : Int32).toNatClampNeg 32) (6 : Int32).toNatClampNeg 0) (7 : Int32).toNatClampNeg 108) (8 : Int32).toNatClampNeg 97) (9 : Int32).toNatClampNeg 99) (10 : Int32).toNatClampNeg 107) (11 : Int32).toNatClampNeg 32) (12 : Int32).toNatClampNeg 0) (13 : Int32).toNatClampNeg 115) (14 : Int32).toNatClampNeg 108) (15 : Int32).toNatClampNeg 97) (16 : Int32).toNatClampNeg 99) (17 : Int32).toNatClampNeg 107) (18 : Int32).toNatClampNeg 32) (19 : Int32).toNatClampNeg 0) (20 : Int32).toNatClampNeg 112) (21 : Int32).toNatClampNeg 117) (22 : Int32).toNatClampNeg 108) (23 : Int32).toNatClampNeg 108) (24 : Int32).toNatClampNeg 32) (25 : Int32).toNatClampNeg 0) (26 : Int32).toNatClampNeg 100) (27 : Int32).toNatClampNeg 101) (28 : Int32).toNatClampNeg 112) (29 : Int32).toNatClampNeg 116) (30 : Int32).toNatClampNeg 104) (31 : Int32).toNatClampNeg 32) (32 : Int32).toNatClampNeg 0) (33 : Int32).toNatClampNeg 115) (34 : Int32).toNatClampNeg 101) (35 : Int32).toNatClampNeg 99) (36 : Int32).toNatClampNeg 111) (37 : Int32).toNatClampNeg 110) (38 : Int32).toNatClampNeg 100) (39 : Int32).toNatClampNeg 115) (40 : Int32).toNatClampNeg 32) (41 : Int32).toNatClampNeg 0) (42 : Int32).toNatClampNeg 104) (43 : Int32).toNatClampNeg 117) (44 : Int32).toNatClampNeg 114) (45 : Int32).toNatClampNeg 114) (46 : Int32).toNatClampNeg 121) (47 : Int32).toNatClampNeg 32) (48 : Int32).toNatClampNeg 0) (49 : Int32).toNatClampNeg 103) (50 : Int32).toNatClampNeg 97) (51 : Int32).toNatClampNeg 112) (52 : Int32).toNatClampNeg 32) (53 : Int32).toNatClampNeg 0) (54 : Int32).toNatClampNeg 99) (55 : Int32).toNatClampNeg 111) (56 : Int32).toNatClampNeg 115) (57 : Int32).toNatClampNeg 116) (58 : Int32).toNatClampNeg 32) (59 : Int32).toNatClampNeg 0) (60 : Int32).toNatClampNeg 97) (61 : Int32).toNatClampNeg 116) (62 : Int32).toNatClampNeg 32) (63 : Int32).toNatClampNeg 0))), (q_15, .inl (cI, 10, .inl (upd (upd (upd (upd (upd (upd (upd (upd (upd (upd (fun _ => 0) (0 : Int32).toNatClampNeg 1) (1 : Int32).toNatClampNeg 1) (2 : Int32).toNatClampNeg 2) (3 : Int32).toNatClampNeg 3) (4 : Int32).toNatClampNeg 1) (5 : Int32).toNatClampNeg 1) (6 : Int32).toNatClampNeg 1) (7 : Int32).toNatClampNeg 1) (8 : Int32).toNatClampNeg 2) (9 : Int32).toNatClampNeg 1))), (q_16, .inl (cI, 3, .inl (fun _ => 0))), (q_17, .inl (cI, 130, .inl (fun _ => 0)))]) hP hD rfl
  clear hP hD
  obtain ⟨hP, hD⟩ := h9R
  refine lv_aload_n hx hb dX8_init_594 rfl (lv_at hl 0 rfl) ?_
  refine lv_sipush (v := 130) hx hb dX8_init_595 (by decide) ?_
  refine va_newa hx hb (atype := .int) (hts _ (List.mem_of_getElem? (i := 9) rfl)) rfl hK hP hD hS hA (N' := 130) (a0 := (130, .inl (fun _ => 0))) (fun _ => rfl) (by decide) (by decide) (Nat.le_of_ble_eq_true rfl) (Nat.le_of_ble_eq_true rfl) (Nat.le_of_ble_eq_true rfl) dX8_init_598 (fun q_18 cA H hK1 hP hD hS => ?_)
  obtain rfl : cI = cA := zk_eqI (k := 0) hK rfl hK1
  have h9R := zRe (ws' := [(m0, .inr (8, (.int 0 :: .int 20 :: .int 0 :: .int 0 :: .int 0 :: .int 60 :: .int 0 :: .int 3 :: .int 1 :: .int (-1) :: .ref q_1 :: .ref q_2 :: .ref q_3 :: .ref q_4 :: .ref q_5 :: .ref q_6 :: .ref q_7 :: .ref q_8 :: .ref q_9 :: .ref q_10 :: .ref q_11 :: .ref q_12 :: .ref q_13 :: .ref q_14 :: .ref q_15 :: .ref q_16 :: .int 0 :: .int 0 :: .int 0 :: .int 0 :: .int 0 :: .ref q_17 :: .null :: .null :: .null :: .null :: .int 0 :: .int 0 :: []))), (q_1, .inl (cI, 8, .inl (fun _ => 0))), (q_2, .inl (cI, 8, .inl (fun _ => 0))), (q_3, .inl (cI, 8, .inl (fun _ => 0))), (q_4, .inl (cI, 8, .inl (fun _ => 0))), (q_5, .inl (cI, 40, .inl (fun _ => 0))), (q_6, .inl (cI, 40, .inl (fun _ => 0))), (q_7, .inl (cI, 3, .inl (zL3 5 10 50))), (q_8, .inl (cI, 8, .inl (fun _ => 0))), (q_9, .inl (cI, 8, .inl (fun _ => 0))), (q_10, .inl (cI, 8, .inl (fun _ => 0))), (q_11, .inl (cI, 8, .inl (fun _ => 0))), (q_12, .inl (cJ, 1280, .inr (.inl (fun _ => 0)))), (q_13, .inl (cJ, 160, .inr (.inl (fun _ => 0)))), (q_14, .inl (cI, 64, .inl (upd (upd (upd (upd (upd (upd (upd (upd (upd (upd (upd (upd (upd (upd (upd (upd (upd (upd (upd (upd (upd (upd (upd (upd (upd (upd (upd (upd (upd (upd (upd (upd (upd (upd (upd (upd (upd (upd (upd (upd (upd (upd (upd (upd (upd (upd (upd (upd (upd (upd (upd (upd (upd (upd (upd (upd (upd (upd (upd (upd (upd (upd (upd (upd (fun _ => 0) (0 : Int32).toNatClampNeg 116) (1 : Int32).toNatClampNeg 101) (2 : Int32).toNatClampNeg 101) (3 : Int32).toNatClampNeg 116) (4 : Int32).toNatClampNeg 104) (5 : Int32).toNatClampNeg 32) (6 : Int32).toNatClampNeg 0) (7 : Int32).toNatClampNeg 108) (8 : Int32).toNatClampNeg 97) (9 : Int32).toNatClampNeg 99) (10 : Int32).toNatClampNeg 107) (11 : Int32).toNatClampNeg 32) (12 : Int32).toNatClampNeg 0) (13 : Int32).toNatClampNeg 115) (14 : Int32).toNatClampNeg 108) (15 : Int32).toNatClampNeg 97) (16 : Int32).toNatClampNeg 99) (17 : Int32).toNatClampNeg 107) (18 : Int32).toNatClampNeg 32) (19 : Int32).toNatClampNeg 0) (20 : Int32).toNatClampNeg 112) (21 : Int32).toNatClampNeg 117) (22 : Int32).toNatClampNeg 108) (23 : Int32).toNatClampNeg 108) (24 : Int32).toNatClampNeg 32) (25 : Int32).toNatClampNeg 0) (26 : Int32).toNatClampNeg 100) (27 : Int32).toNatClampNeg 101) (28 : Int32).toNatClampNeg 112) (29 : Int32).toNatClampNeg 116) (30 : Int32).toNatClampNeg 104) (31 : Int32).toNatClampNeg 32) (32 : Int32).toNatClampNeg 0) (33 : Int32).toNatClampNeg 115) (34 : Int32).toNatClampNeg 101) (35 : Int32).toNatClampNeg 99) (36 : Int32).toNatClampNeg 111) (37 : Int32).toNatClampNeg 110) (38 : Int32).toNatClampNeg 100) (39 : Int32).toNatClampNeg 115) (40 : Int32).toNatClampNeg 32) (41 : Int32).toNatClampNeg 0) (42 : Int32).toNatClampNeg 104) (43 : Int32).toNatClampNeg 117) (44 : Int32).toNatClampNeg 114) (45 : Int32).toNatClampNeg 114) (46 : Int32).toNatClampNeg 121) (47 : Int32).toNatClampNeg 32) (48 : Int32).toNatClampNeg 0) (49 : Int32).toNatClampNeg 103) (50 : Int32).toNatClampNeg 97) (51 : Int32).toNatClampNeg 112) (52 : Int32).toNatClampNeg 32) (53 : Int32).toNatClampNeg 0) (54 : Int32).toNatClampNeg 99) (55 : Int32).toNatClampNeg 111) (56 : Int32).toNatClampNeg 115) (57 : Int32).toNatClampNeg 116) (58 : Int32).toNatClampNeg 32) (59 : Int32).toNatClampNeg 0) (60 : Int32).toNatClampNeg 97) (61 : Int32).toNatClampNeg 116) (62 : Int32).toNatClampNeg 32) (63 : Int32).toNatClampNeg 0))), (q_15, .inl (cI, 10, .inl (upd (upd (upd (upd (upd (upd (upd (upd (upd (upd (fun _ => 0) (0 : Int32).toNatClampNeg 1) (1 : Int32).toNatClampNeg 1) (2 : Int32).toNatClampNeg 2) (3 : Int32).toNatClampNeg 3) (4 : Int32).toNatClampNeg 1) (5 : Int32).toNatClampNeg 1) (6 : Int32).toNatClampNeg 1) (7 : Int32).toNatClampNeg 1) (8 : Int32).toNatClampNeg 2) (9 : Int32).toNatClampNeg 1))), (q_16, .inl (cI, 3, .inl (fun _ => 0))), (q_17, .inl (cI, 130, .inl (fun _ => 0))), (q_18, .inl (cI, 130, .inl (fun _ => 0)))]) hP hD rfl
  clear hP hD
  obtain ⟨hP, hD⟩ := h9R
  refine W.widen (k := 18) (n := 1924) (Nat.le_of_ble_eq_true rfl) (Nat.le_of_ble_eq_true rfl) ?_
  refine va_putF (D := D) (ci := 8) (v := .ref q_18) (ty := (.array .int)) (C := RX8) (T := TX8) (N := 38) hx hb hts hi_X8_init_8 tyX8 tyX8_ok nmX8 hown hK hP hD hS 0 rfl rfl 32 (by decide) (hts (.fieldLink RX8 78 "TheLiningsInItModel" "kept" "[I") (List.mem_of_getElem? (i := 28) rfl)) (fun _ h9 => h9) rfl hin rfl (tyX8_ok 32 (Nat.le_of_ble_eq_true rfl)) rfl rfl (Nat.le_of_ble_eq_true rfl) dX8_init_600 (fun H locs hP hD hS => ?_)
  have h9R := zRe (ws' := [(m0, .inr (8, (.int 0 :: .int 20 :: .int 0 :: .int 0 :: .int 0 :: .int 60 :: .int 0 :: .int 3 :: .int 1 :: .int (-1) :: .ref q_1 :: .ref q_2 :: .ref q_3 :: .ref q_4 :: .ref q_5 :: .ref q_6 :: .ref q_7 :: .ref q_8 :: .ref q_9 :: .ref q_10 :: .ref q_11 :: .ref q_12 :: .ref q_13 :: .ref q_14 :: .ref q_15 :: .ref q_16 :: .int 0 :: .int 0 :: .int 0 :: .int 0 :: .int 0 :: .ref q_17 :: .ref q_18 :: .null :: .null :: .null :: .int 0 :: .int 0 :: []))), (q_1, .inl (cI, 8, .inl (fun _ => 0))), (q_2, .inl (cI, 8, .inl (fun _ => 0))), (q_3, .inl (cI, 8, .inl (fun _ => 0))), (q_4, .inl (cI, 8, .inl (fun _ => 0))), (q_5, .inl (cI, 40, .inl (fun _ => 0))), (q_6, .inl (cI, 40, .inl (fun _ => 0))), (q_7, .inl (cI, 3, .inl (zL3 5 10 50))), (q_8, .inl (cI, 8, .inl (fun _ => 0))), (q_9, .inl (cI, 8, .inl (fun _ => 0))), (q_10, .inl (cI, 8, .inl (fun _ => 0))), (q_11, .inl (cI, 8, .inl (fun _ => 0))), (q_12, .inl (cJ, 1280, .inr (.inl (fun _ => 0)))), (q_13, .inl (cJ, 160, .inr (.inl (fun _ => 0)))), (q_14, .inl (cI, 64, .inl (upd (upd (upd (upd (upd (upd (upd (upd (upd (upd (upd (upd (upd (upd (upd (upd (upd (upd (upd (upd (upd (upd (upd (upd (upd (upd (upd (upd (upd (upd (upd (upd (upd (upd (upd (upd (upd (upd (upd (upd (upd (upd (upd (upd (upd (upd (upd (upd (upd (upd (upd (upd (upd (upd (upd (upd (upd (upd (upd (upd (upd (upd (upd (upd (fun _ => 0) (0 : Int32).toNatClampNeg 116) (1 : Int32).toNatClampNeg 101) (2 : Int32).toNatClampNeg 101) (3 : Int32).toNatClampNeg 116) (4 : Int32).toNatClampNeg 104) (5 : Int32).toNatClampNeg 32) (6 : Int32).toNatClampNeg 0) (7 : Int32).toNatClampNeg 108) (8 : Int32).toNatClampNeg 97) (9 : Int32).toNatClampNeg 99) (10 : Int32).toNatClampNeg 107) (11 : Int32).toNatClampNeg 32) (12 : Int32).toNatClampNeg 0) (13 : Int32).toNatClampNeg 115) (14 : Int32).toNatClampNeg 108) (15 : Int32).toNatClampNeg 97) (16 : Int32).toNatClampNeg 99) (17 : Int32).toNatClampNeg 107) (18 : Int32).toNatClampNeg 32) (19 : Int32).toNatClampNeg 0) (20 : Int32).toNatClampNeg 112) (21 : Int32).toNatClampNeg 117) (22 : Int32).toNatClampNeg 108) (23 : Int32).toNatClampNeg 108) (24 : Int32).toNatClampNeg 32) (25 : Int32).toNatClampNeg 0) (26 : Int32).toNatClampNeg 100) (27 : Int32).toNatClampNeg 101) (28 : Int32).toNatClampNeg 112) (29 : Int32).toNatClampNeg 116) (30 : Int32).toNatClampNeg 104) (31 : Int32).toNatClampNeg 32) (32 : Int32).toNatClampNeg 0) (33 : Int32).toNatClampNeg 115) (34 : Int32).toNatClampNeg 101) (35 : Int32).toNatClampNeg 99) (36 : Int32).toNatClampNeg 111) (37 : Int32).toNatClampNeg 110) (38 : Int32).toNatClampNeg 100) (39 : Int32).toNatClampNeg 115) (40 : Int32).toNatClampNeg 32) (41 : Int32).toNatClampNeg 0) (42 : Int32).toNatClampNeg 104) (43 : Int32).toNatClampNeg 117) (44 : Int32).toNatClampNeg 114) (45 : Int32).toNatClampNeg 114) (46 : Int32).toNatClampNeg 121) (47 : Int32).toNatClampNeg 32) (48 : Int32).toNatClampNeg 0) (49 : Int32).toNatClampNeg 103) (50 : Int32).toNatClampNeg 97) (51 : Int32).toNatClampNeg 112) (52 : Int32).toNatClampNeg 32) (53 : Int32).toNatClampNeg 0) (54 : Int32).toNatClampNeg 99) (55 : Int32).toNatClampNeg 111) (56 : Int32).toNatClampNeg 115) (57 : Int32).toNatClampNeg 116) (58 : Int32).toNatClampNeg 32) (59 : Int32).toNatClampNeg 0) (60 : Int32).toNatClampNeg 97) (61 : Int32).toNatClampNeg 116) (62 : Int32).toNatClampNeg 32) (63 : Int32).toNatClampNeg 0))), (q_15, .inl (cI, 10, .inl (upd (upd (upd (upd (upd (upd (upd (upd (upd (upd (fun _ => 0) (0 : Int32).toNatClampNeg 1) (1 : Int32).toNatClampNeg 1) (2 : Int32).toNatClampNeg 2) (3 : Int32).toNatClampNeg 3) (4 : Int32).toNatClampNeg 1) (5 : Int32).toNatClampNeg 1) (6 : Int32).toNatClampNeg 1) (7 : Int32).toNatClampNeg 1) (8 : Int32).toNatClampNeg 2) (9 : Int32).toNatClampNeg 1))), (q_16, .inl (cI, 3, .inl (fun _ => 0))), (q_17, .inl (cI, 130, .inl (fun _ => 0))), (q_18, .inl (cI, 130, .inl (fun _ => 0)))]) hP hD rfl
  clear hP hD
  obtain ⟨hP, hD⟩ := h9R
  refine lv_aload_n hx hb dX8_init_603 rfl (lv_at hl 0 rfl) ?_
  refine lv_iconst (v := 3) hx hb dX8_init_604 (by decide) ?_
  refine va_newa hx hb (atype := .int) (hts _ (List.mem_of_getElem? (i := 9) rfl)) rfl hK hP hD hS hA (N' := 3) (a0 := (3, .inl (fun _ => 0))) (fun _ => rfl) (by decide) (by decide) (Nat.le_of_ble_eq_true rfl) (Nat.le_of_ble_eq_true rfl) (Nat.le_of_ble_eq_true rfl) dX8_init_605 (fun q_19 cA H hK1 hP hD hS => ?_)
  obtain rfl : cI = cA := zk_eqI (k := 0) hK rfl hK1
  have h9R := zRe (ws' := [(m0, .inr (8, (.int 0 :: .int 20 :: .int 0 :: .int 0 :: .int 0 :: .int 60 :: .int 0 :: .int 3 :: .int 1 :: .int (-1) :: .ref q_1 :: .ref q_2 :: .ref q_3 :: .ref q_4 :: .ref q_5 :: .ref q_6 :: .ref q_7 :: .ref q_8 :: .ref q_9 :: .ref q_10 :: .ref q_11 :: .ref q_12 :: .ref q_13 :: .ref q_14 :: .ref q_15 :: .ref q_16 :: .int 0 :: .int 0 :: .int 0 :: .int 0 :: .int 0 :: .ref q_17 :: .ref q_18 :: .null :: .null :: .null :: .int 0 :: .int 0 :: []))), (q_1, .inl (cI, 8, .inl (fun _ => 0))), (q_2, .inl (cI, 8, .inl (fun _ => 0))), (q_3, .inl (cI, 8, .inl (fun _ => 0))), (q_4, .inl (cI, 8, .inl (fun _ => 0))), (q_5, .inl (cI, 40, .inl (fun _ => 0))), (q_6, .inl (cI, 40, .inl (fun _ => 0))), (q_7, .inl (cI, 3, .inl (zL3 5 10 50))), (q_8, .inl (cI, 8, .inl (fun _ => 0))), (q_9, .inl (cI, 8, .inl (fun _ => 0))), (q_10, .inl (cI, 8, .inl (fun _ => 0))), (q_11, .inl (cI, 8, .inl (fun _ => 0))), (q_12, .inl (cJ, 1280, .inr (.inl (fun _ => 0)))), (q_13, .inl (cJ, 160, .inr (.inl (fun _ => 0)))), (q_14, .inl (cI, 64, .inl (upd (upd (upd (upd (upd (upd (upd (upd (upd (upd (upd (upd (upd (upd (upd (upd (upd (upd (upd (upd (upd (upd (upd (upd (upd (upd (upd (upd (upd (upd (upd (upd (upd (upd (upd (upd (upd (upd (upd (upd (upd (upd (upd (upd (upd (upd (upd (upd (upd (upd (upd (upd (upd (upd (upd (upd (upd (upd (upd (upd (upd (upd (upd (upd (fun _ => 0) (0 : Int32).toNatClampNeg 116) (1 : Int32).toNatClampNeg 101) (2 : Int32).toNatClampNeg 101) (3 : Int32).toNatClampNeg 116) (4 : Int32).toNatClampNeg 104) (5 : Int32).toNatClampNeg 32) (6 : Int32).toNatClampNeg 0) (7 : Int32).toNatClampNeg 108) (8 : Int32).toNatClampNeg 97) (9 : Int32).toNatClampNeg 99) (10 : Int32).toNatClampNeg 107) (11 : Int32).toNatClampNeg 32) (12 : Int32).toNatClampNeg 0) (13 : Int32).toNatClampNeg 115) (14 : Int32).toNatClampNeg 108) (15 : Int32).toNatClampNeg 97) (16 : Int32).toNatClampNeg 99) (17 : Int32).toNatClampNeg 107) (18 : Int32).toNatClampNeg 32) (19 : Int32).toNatClampNeg 0) (20 : Int32).toNatClampNeg 112) (21 : Int32).toNatClampNeg 117) (22 : Int32).toNatClampNeg 108) (23 : Int32).toNatClampNeg 108) (24 : Int32).toNatClampNeg 32) (25 : Int32).toNatClampNeg 0) (26 : Int32).toNatClampNeg 100) (27 : Int32).toNatClampNeg 101) (28 : Int32).toNatClampNeg 112) (29 : Int32).toNatClampNeg 116) (30 : Int32).toNatClampNeg 104) (31 : Int32).toNatClampNeg 32) (32 : Int32).toNatClampNeg 0) (33 : Int32).toNatClampNeg 115) (34 : Int32).toNatClampNeg 101) (35 : Int32).toNatClampNeg 99) (36 : Int32).toNatClampNeg 111) (37 : Int32).toNatClampNeg 110) (38 : Int32).toNatClampNeg 100) (39 : Int32).toNatClampNeg 115) (40 : Int32).toNatClampNeg 32) (41 : Int32).toNatClampNeg 0) (42 : Int32).toNatClampNeg 104) (43 : Int32).toNatClampNeg 117) (44 : Int32).toNatClampNeg 114) (45 : Int32).toNatClampNeg 114) (46 : Int32).toNatClampNeg 121) (47 : Int32).toNatClampNeg 32) (48 : Int32).toNatClampNeg 0) (49 : Int32).toNatClampNeg 103) (50 : Int32).toNatClampNeg 97) (51 : Int32).toNatClampNeg 112) (52 : Int32).toNatClampNeg 32) (53 : Int32).toNatClampNeg 0) (54 : Int32).toNatClampNeg 99) (55 : Int32).toNatClampNeg 111) (56 : Int32).toNatClampNeg 115) (57 : Int32).toNatClampNeg 116) (58 : Int32).toNatClampNeg 32) (59 : Int32).toNatClampNeg 0) (60 : Int32).toNatClampNeg 97) (61 : Int32).toNatClampNeg 116) (62 : Int32).toNatClampNeg 32) (63 : Int32).toNatClampNeg 0))), (q_15, .inl (cI, 10, .inl (upd (upd (upd (upd (upd (upd (upd (upd (upd (upd (fun _ => 0) (0 : Int32).toNatClampNeg 1) (1 : Int32).toNatClampNeg 1) (2 : Int32).toNatClampNeg 2) (3 : Int32).toNatClampNeg 3) (4 : Int32).toNatClampNeg 1) (5 : Int32).toNatClampNeg 1) (6 : Int32).toNatClampNeg 1) (7 : Int32).toNatClampNeg 1) (8 : Int32).toNatClampNeg 2) (9 : Int32).toNatClampNeg 1))), (q_16, .inl (cI, 3, .inl (fun _ => 0))), (q_17, .inl (cI, 130, .inl (fun _ => 0))), (q_18, .inl (cI, 130, .inl (fun _ => 0))), (q_19, .inl (cI, 3, .inl (fun _ => 0)))]) hP hD rfl
  clear hP hD
  obtain ⟨hP, hD⟩ := h9R
  refine W.widen (k := 19) (n := 1927) (Nat.le_of_ble_eq_true rfl) (Nat.le_of_ble_eq_true rfl) ?_
  refine va_putF (D := D) (ci := 8) (v := .ref q_19) (ty := (.array .int)) (C := RX8) (T := TX8) (N := 38) hx hb hts hi_X8_init_8 tyX8 tyX8_ok nmX8 hown hK hP hD hS 0 rfl rfl 33 (by decide) (hts (.fieldLink RX8 81 "TheLiningsInItModel" "may" "[I") (List.mem_of_getElem? (i := 29) rfl)) (fun _ h9 => h9) rfl hin rfl (tyX8_ok 33 (Nat.le_of_ble_eq_true rfl)) rfl rfl (Nat.le_of_ble_eq_true rfl) dX8_init_607 (fun H locs hP hD hS => ?_)
  have h9R := zRe (ws' := [(m0, .inr (8, (.int 0 :: .int 20 :: .int 0 :: .int 0 :: .int 0 :: .int 60 :: .int 0 :: .int 3 :: .int 1 :: .int (-1) :: .ref q_1 :: .ref q_2 :: .ref q_3 :: .ref q_4 :: .ref q_5 :: .ref q_6 :: .ref q_7 :: .ref q_8 :: .ref q_9 :: .ref q_10 :: .ref q_11 :: .ref q_12 :: .ref q_13 :: .ref q_14 :: .ref q_15 :: .ref q_16 :: .int 0 :: .int 0 :: .int 0 :: .int 0 :: .int 0 :: .ref q_17 :: .ref q_18 :: .ref q_19 :: .null :: .null :: .int 0 :: .int 0 :: []))), (q_1, .inl (cI, 8, .inl (fun _ => 0))), (q_2, .inl (cI, 8, .inl (fun _ => 0))), (q_3, .inl (cI, 8, .inl (fun _ => 0))), (q_4, .inl (cI, 8, .inl (fun _ => 0))), (q_5, .inl (cI, 40, .inl (fun _ => 0))), (q_6, .inl (cI, 40, .inl (fun _ => 0))), (q_7, .inl (cI, 3, .inl (zL3 5 10 50))), (q_8, .inl (cI, 8, .inl (fun _ => 0))), (q_9, .inl (cI, 8, .inl (fun _ => 0))), (q_10, .inl (cI, 8, .inl (fun _ => 0))), (q_11, .inl (cI, 8, .inl (fun _ => 0))), (q_12, .inl (cJ, 1280, .inr (.inl (fun _ => 0)))), (q_13, .inl (cJ, 160, .inr (.inl (fun _ => 0)))), (q_14, .inl (cI, 64, .inl (upd (upd (upd (upd (upd (upd (upd (upd (upd (upd (upd (upd (upd (upd (upd (upd (upd (upd (upd (upd (upd (upd (upd (upd (upd (upd (upd (upd (upd (upd (upd (upd (upd (upd (upd (upd (upd (upd (upd (upd (upd (upd (upd (upd (upd (upd (upd (upd (upd (upd (upd (upd (upd (upd (upd (upd (upd (upd (upd (upd (upd (upd (upd (upd (fun _ => 0) (0 : Int32).toNatClampNeg 116) (1 : Int32).toNatClampNeg 101) (2 : Int32).toNatClampNeg 101) (3 : Int32).toNatClampNeg 116) (4 : Int32).toNatClampNeg 104) (5 : Int32).toNatClampNeg 32) (6 : Int32).toNatClampNeg 0) (7 : Int32).toNatClampNeg 108) (8 : Int32).toNatClampNeg 97) (9 : Int32).toNatClampNeg 99) (10 : Int32).toNatClampNeg 107) (11 : Int32).toNatClampNeg 32) (12 : Int32).toNatClampNeg 0) (13 : Int32).toNatClampNeg 115) (14 : Int32).toNatClampNeg 108) (15 : Int32).toNatClampNeg 97) (16 : Int32).toNatClampNeg 99) (17 : Int32).toNatClampNeg 107) (18 : Int32).toNatClampNeg 32) (19 : Int32).toNatClampNeg 0) (20 : Int32).toNatClampNeg 112) (21 : Int32).toNatClampNeg 117) (22 : Int32).toNatClampNeg 108) (23 : Int32).toNatClampNeg 108) (24 : Int32).toNatClampNeg 32) (25 : Int32).toNatClampNeg 0) (26 : Int32).toNatClampNeg 100) (27 : Int32).toNatClampNeg 101) (28 : Int32).toNatClampNeg 112) (29 : Int32).toNatClampNeg 116) (30 : Int32).toNatClampNeg 104) (31 : Int32).toNatClampNeg 32) (32 : Int32).toNatClampNeg 0) (33 : Int32).toNatClampNeg 115) (34 : Int32).toNatClampNeg 101) (35 : Int32).toNatClampNeg 99) (36 : Int32).toNatClampNeg 111) (37 : Int32).toNatClampNeg 110) (38 : Int32).toNatClampNeg 100) (39 : Int32).toNatClampNeg 115) (40 : Int32).toNatClampNeg 32) (41 : Int32).toNatClampNeg 0) (42 : Int32).toNatClampNeg 104) (43 : Int32).toNatClampNeg 117) (44 : Int32).toNatClampNeg 114) (45 : Int32).toNatClampNeg 114) (46 : Int32).toNatClampNeg 121) (47 : Int32).toNatClampNeg 32) (48 : Int32).toNatClampNeg 0) (49 : Int32).toNatClampNeg 103) (50 : Int32).toNatClampNeg 97) (51 : Int32).toNatClampNeg 112) (52 : Int32).toNatClampNeg 32) (53 : Int32).toNatClampNeg 0) (54 : Int32).toNatClampNeg 99) (55 : Int32).toNatClampNeg 111) (56 : Int32).toNatClampNeg 115) (57 : Int32).toNatClampNeg 116) (58 : Int32).toNatClampNeg 32) (59 : Int32).toNatClampNeg 0) (60 : Int32).toNatClampNeg 97) (61 : Int32).toNatClampNeg 116) (62 : Int32).toNatClampNeg 32) (63 : Int32).toNatClampNeg 0))), (q_15, .inl (cI, 10, .inl (upd (upd (upd (upd (upd (upd (upd (upd (upd (upd (fun _ => 0) (0 : Int32).toNatClampNeg 1) (1 : Int32).toNatClampNeg 1) (2 : Int32).toNatClampNeg 2) (3 : Int32).toNatClampNeg 3) (4 : Int32).toNatClampNeg 1) (5 : Int32).toNatClampNeg 1) (6 : Int32).toNatClampNeg 1) (7 : Int32).toNatClampNeg 1) (8 : Int32).toNatClampNeg 2) (9 : Int32).toNatClampNeg 1))), (q_16, .inl (cI, 3, .inl (fun _ => 0))), (q_17, .inl (cI, 130, .inl (fun _ => 0))), (q_18, .inl (cI, 130, .inl (fun _ => 0))), (q_19, .inl (cI, 3, .inl (fun _ => 0)))]) hP hD rfl
  clear hP hD
  obtain ⟨hP, hD⟩ := h9R
  refine lv_aload_n hx hb dX8_init_610 rfl (lv_at hl 0 rfl) ?_
  refine lv_iconst (v := 3) hx hb dX8_init_611 (by decide) ?_
  refine va_newa hx hb (atype := .int) (hts _ (List.mem_of_getElem? (i := 9) rfl)) rfl hK hP hD hS hA (N' := 3) (a0 := (3, .inl (fun _ => 0))) (fun _ => rfl) (by decide) (by decide) (Nat.le_of_ble_eq_true rfl) (Nat.le_of_ble_eq_true rfl) (Nat.le_of_ble_eq_true rfl) dX8_init_612 (fun q_20 cA H hK1 hP hD hS => ?_)
  obtain rfl : cI = cA := zk_eqI (k := 0) hK rfl hK1
  have h9R := zRe (ws' := ((m0, .inr (8, (.int 0 :: .int 20 :: .int 0 :: .int 0 :: .int 0 :: .int 60 :: .int 0 :: .int 3 :: .int 1 :: .int (-1) :: .ref q_1 :: .ref q_2 :: .ref q_3 :: .ref q_4 :: .ref q_5 :: .ref q_6 :: .ref q_7 :: .ref q_8 :: .ref q_9 :: .ref q_10 :: .ref q_11 :: .ref q_12 :: .ref q_13 :: .ref q_14 :: .ref q_15 :: .ref q_16 :: .int 0 :: .int 0 :: .int 0 :: .int 0 :: .int 0 :: .ref q_17 :: .ref q_18 :: .ref q_19 :: .null :: .null :: .int 0 :: .int 0 :: []))) :: (q_1, .inl (cI, 8, .inl (fun _ => 0))) :: (q_2, .inl (cI, 8, .inl (fun _ => 0))) :: (q_3, .inl (cI, 8, .inl (fun _ => 0))) :: (q_4, .inl (cI, 8, .inl (fun _ => 0))) :: (q_5, .inl (cI, 40, .inl (fun _ => 0))) :: (q_6, .inl (cI, 40, .inl (fun _ => 0))) :: (q_7, .inl (cI, 3, .inl (zL3 5 10 50))) :: (q_8, .inl (cI, 8, .inl (fun _ => 0))) :: (q_9, .inl (cI, 8, .inl (fun _ => 0))) :: (q_10, .inl (cI, 8, .inl (fun _ => 0))) :: (q_11, .inl (cI, 8, .inl (fun _ => 0))) :: (q_12, .inl (cJ, 1280, .inr (.inl (fun _ => 0)))) :: (q_13, .inl (cJ, 160, .inr (.inl (fun _ => 0)))) :: (q_14, .inl (cI, 64, .inl (upd (upd (upd (upd (upd (upd (upd (upd (upd (upd (upd (upd (upd (upd (upd (upd (upd (upd (upd (upd (upd (upd (upd (upd (upd (upd (upd (upd (upd (upd (upd (upd (upd (upd (upd (upd (upd (upd (upd (upd (upd (upd (upd (upd (upd (upd (upd (upd (upd (upd (upd (upd (upd (upd (upd (upd (upd (upd (upd (upd (upd (upd (upd (upd (fun _ => 0) (0 : Int32).toNatClampNeg 116) (1 : Int32).toNatClampNeg 101) (2 : Int32).toNatClampNeg 101) (3 : Int32).toNatClampNeg 116) (4 : Int32).toNatClampNeg 104) (5 : Int32).toNatClampNeg 32) (6 : Int32).toNatClampNeg 0) (7 : Int32).toNatClampNeg 108) (8 : Int32).toNatClampNeg 97) (9 : Int32).toNatClampNeg 99) (10 : Int32).toNatClampNeg 107) (11 : Int32).toNatClampNeg 32) (12 : Int32).toNatClampNeg 0) (13 : Int32).toNatClampNeg 115) (14 : Int32).toNatClampNeg 108) (15 : Int32).toNatClampNeg 97) (16 : Int32).toNatClampNeg 99) (17 : Int32).toNatClampNeg 107) (18 : Int32).toNatClampNeg 32) (19 : Int32).toNatClampNeg 0) (20 : Int32).toNatClampNeg 112) (21 : Int32).toNatClampNeg 117) (22 : Int32).toNatClampNeg 108) (23 : Int32).toNatClampNeg 108) (24 : Int32).toNatClampNeg 32) (25 : Int32).toNatClampNeg 0) (26 : Int32).toNatClampNeg 100) (27 : Int32).toNatClampNeg 101) (28 : Int32).toNatClampNeg 112) (29 : Int32).toNatClampNeg 116) (30 : Int32).toNatClampNeg 104) (31 : Int32).toNatClampNeg 32) (32 : Int32).toNatClampNeg 0) (33 : Int32).toNatClampNeg 115) (34 : Int32).toNatClampNeg 101) (35 : Int32).toNatClampNeg 99) (36 : Int32).toNatClampNeg 111) (37 : Int32).toNatClampNeg 110) (38 : Int32).toNatClampNeg 100) (39 : Int32).toNatClampNeg 115) (40 : Int32).toNatClampNeg 32) (41 : Int32).toNatClampNeg 0) (42 : Int32).toNatClampNeg 104) (43 : Int32).toNatClampNeg 117) (44 : Int32).toNatClampNeg 114) (45 : Int32).toNatClampNeg 114) (46 : Int32).toNatClampNeg 121) (47 : Int32).toNatClampNeg 32) (48 : Int32).toNatClampNeg 0) (49 : Int32).toNatClampNeg 103) (50 : Int32).toNatClampNeg 97) (51 : Int32).toNatClampNeg 112) (52 : Int32).toNatClampNeg 32) (53 : Int32).toNatClampNeg 0) (54 : Int32).toNatClampNeg 99) (55 : Int32).toNatClampNeg 111) (56 : Int32).toNatClampNeg 115) (57 : Int32).toNatClampNeg 116) (58 : Int32).toNatClampNeg 32) (59 : Int32).toNatClampNeg 0) (60 : Int32).toNatClampNeg 97) (61 : Int32).toNatClampNeg 116) (62 : Int32).toNatClampNeg 32) (63 : Int32).toNatClampNeg 0))) :: (q_15, .inl (cI, 10, .inl (upd (upd (upd (upd (upd (upd (upd (upd (upd (upd (fun _ => 0) (0 : Int32).toNatClampNeg 1) (1 : Int32).toNatClampNeg 1) (2 : Int32).toNatClampNeg 2) (3 : Int32).toNatClampNeg 3) (4 : Int32).toNatClampNeg 1) (5 : Int32).toNatClampNeg 1) (6 : Int32).toNatClampNeg 1) (7 : Int32).toNatClampNeg 1) (8 : Int32).toNatClampNeg 2) (9 : Int32).toNatClampNeg 1))) :: (q_16, .inl (cI, 3, .inl (fun _ => 0))) :: (q_17, .inl (cI, 130, .inl (fun _ => 0))) :: (q_18, .inl (cI, 130, .inl (fun _ => 0))) :: (q_19, .inl (cI, 3, .inl (fun _ => 0))) :: (q_20, .inl (cI, 3, .inl (fun _ => 0))) :: [])) hP hD rfl
  clear hP hD
  obtain ⟨hP, hD⟩ := h9R
  refine W.widen (k := 20) (n := 1930) (Nat.le_of_ble_eq_true rfl) (Nat.le_of_ble_eq_true rfl) ?_
  refine va_putF (D := D) (ci := 8) (v := .ref q_20) (ty := (.array .int)) (C := RX8) (T := TX8) (N := 38) hx hb hts hi_X8_init_8 tyX8 tyX8_ok nmX8 hown hK hP hD hS 0 rfl rfl 34 (by decide) (hts (.fieldLink RX8 84 "TheLiningsInItModel" "then" "[I") (List.mem_of_getElem? (i := 30) rfl)) (fun _ h9 => h9) rfl hin rfl (tyX8_ok 34 (Nat.le_of_ble_eq_true rfl)) rfl rfl (Nat.le_of_ble_eq_true rfl) dX8_init_614 (fun H locs hP hD hS => ?_)
  have h9R := zRe (ws' := ((m0, .inr (8, (.int 0 :: .int 20 :: .int 0 :: .int 0 :: .int 0 :: .int 60 :: .int 0 :: .int 3 :: .int 1 :: .int (-1) :: .ref q_1 :: .ref q_2 :: .ref q_3 :: .ref q_4 :: .ref q_5 :: .ref q_6 :: .ref q_7 :: .ref q_8 :: .ref q_9 :: .ref q_10 :: .ref q_11 :: .ref q_12 :: .ref q_13 :: .ref q_14 :: .ref q_15 :: .ref q_16 :: .int 0 :: .int 0 :: .int 0 :: .int 0 :: .int 0 :: .ref q_17 :: .ref q_18 :: .ref q_19 :: .ref q_20 :: .null :: .int 0 :: .int 0 :: []))) :: (q_1, .inl (cI, 8, .inl (fun _ => 0))) :: (q_2, .inl (cI, 8, .inl (fun _ => 0))) :: (q_3, .inl (cI, 8, .inl (fun _ => 0))) :: (q_4, .inl (cI, 8, .inl (fun _ => 0))) :: (q_5, .inl (cI, 40, .inl (fun _ => 0))) :: (q_6, .inl (cI, 40, .inl (fun _ => 0))) :: (q_7, .inl (cI, 3, .inl (zL3 5 10 50))) :: (q_8, .inl (cI, 8, .inl (fun _ => 0))) :: (q_9, .inl (cI, 8, .inl (fun _ => 0))) :: (q_10, .inl (cI, 8, .inl (fun _ => 0))) :: (q_11, .inl (cI, 8, .inl (fun _ => 0))) :: (q_12, .inl (cJ, 1280, .inr (.inl (fun _ => 0)))) :: (q_13, .inl (cJ, 160, .inr (.inl (fun _ => 0)))) :: (q_14, .inl (cI, 64, .inl (upd (upd (upd (upd (upd (upd (upd (upd (upd (upd (upd (upd (upd (upd (upd (upd (upd (upd (upd (upd (upd (upd (upd (upd (upd (upd (upd (upd (upd (upd (upd (upd (upd (upd (upd (upd (upd (upd (upd (upd (upd (upd (upd (upd (upd (upd (upd (upd (upd (upd (upd (upd (upd (upd (upd (upd (upd (upd (upd (upd (upd (upd (upd (upd (fun _ => 0) (0 : Int32).toNatClampNeg 116) (1 : Int32).toNatClampNeg 101) (2 : Int32).toNatClampNeg 101) (3 : Int32).toNatClampNeg 116) (4 : Int32).toNatClampNeg 104) (5 : Int32).toNatClampNeg 32) (6 : Int32).toNatClampNeg 0) (7 : Int32).toNatClampNeg 108) (8 : Int32).toNatClampNeg 97) (9 : Int32).toNatClampNeg 99) (10 : Int32).toNatClampNeg 107) (11 : Int32).toNatClampNeg 32) (12 : Int32).toNatClampNeg 0) (13 : Int32).toNatClampNeg 115) (14 : Int32).toNatClampNeg 108) (15 : Int32).toNatClampNeg 97) (16 : Int32).toNatClampNeg 99) (17 : Int32).toNatClampNeg 107) (18 : Int32).toNatClampNeg 32) (19 : Int32).toNatClampNeg 0) (20 : Int32).toNatClampNeg 112) (21 : Int32).toNatClampNeg 117) (22 : Int32).toNatClampNeg 108) (23 : Int32).toNatClampNeg 108) (24 : Int32).toNatClampNeg 32) (25 : Int32).toNatClampNeg 0) (26 : Int32).toNatClampNeg 100) (27 : Int32).toNatClampNeg 101) (28 : Int32).toNatClampNeg 112) (29 : Int32).toNatClampNeg 116) (30 : Int32).toNatClampNeg 104) (31 : Int32).toNatClampNeg 32) (32 : Int32).toNatClampNeg 0) (33 : Int32).toNatClampNeg 115) (34 : Int32).toNatClampNeg 101) (35 : Int32).toNatClampNeg 99) (36 : Int32).toNatClampNeg 111) (37 : Int32).toNatClampNeg 110) (38 : Int32).toNatClampNeg 100) (39 : Int32).toNatClampNeg 115) (40 : Int32).toNatClampNeg 32) (41 : Int32).toNatClampNeg 0) (42 : Int32).toNatClampNeg 104) (43 : Int32).toNatClampNeg 117) (44 : Int32).toNatClampNeg 114) (45 : Int32).toNatClampNeg 114) (46 : Int32).toNatClampNeg 121) (47 : Int32).toNatClampNeg 32) (48 : Int32).toNatClampNeg 0) (49 : Int32).toNatClampNeg 103) (50 : Int32).toNatClampNeg 97) (51 : Int32).toNatClampNeg 112) (52 : Int32).toNatClampNeg 32) (53 : Int32).toNatClampNeg 0) (54 : Int32).toNatClampNeg 99) (55 : Int32).toNatClampNeg 111) (56 : Int32).toNatClampNeg 115) (57 : Int32).toNatClampNeg 116) (58 : Int32).toNatClampNeg 32) (59 : Int32).toNatClampNeg 0) (60 : Int32).toNatClampNeg 97) (61 : Int32).toNatClampNeg 116) (62 : Int32).toNatClampNeg 32) (63 : Int32).toNatClampNeg 0))) :: (q_15, .inl (cI, 10, .inl (upd (upd (upd (upd (upd (upd (upd (upd (upd (upd (fun _ => 0) (0 : Int32).toNatClampNeg 1) (1 : Int32).toNatClampNeg 1) (2 : Int32).toNatClampNeg 2) (3 : Int32).toNatClampNeg 3) (4 : Int32).toNatClampNeg 1) (5 : Int32).toNatClampNeg 1) (6 : Int32).toNatClampNeg 1) (7 : Int32).toNatClampNeg 1) (8 : Int32).toNatClampNeg 2) (9 : Int32).toNatClampNeg 1))) :: (q_16, .inl (cI, 3, .inl (fun _ => 0))) :: (q_17, .inl (cI, 130, .inl (fun _ => 0))) :: (q_18, .inl (cI, 130, .inl (fun _ => 0))) :: (q_19, .inl (cI, 3, .inl (fun _ => 0))) :: (q_20, .inl (cI, 3, .inl (fun _ => 0))) :: [])) hP hD rfl
  clear hP hD
  obtain ⟨hP, hD⟩ := h9R
  refine lv_aload_n hx hb dX8_init_617 rfl (lv_at hl 0 rfl) ?_
  refine lv_bipush (v := 20) hx hb dX8_init_618 (by decide) ?_
  refine va_newa hx hb (atype := .int) (hts _ (List.mem_of_getElem? (i := 9) rfl)) rfl hK hP hD hS hA (N' := 20) (a0 := (20, .inl (fun _ => 0))) (fun _ => rfl) (by decide) (by decide) (Nat.le_of_ble_eq_true rfl) (Nat.le_of_ble_eq_true rfl) (Nat.le_of_ble_eq_true rfl) dX8_init_620 (fun q_21 cA H hK1 hP hD hS => ?_)
  obtain rfl : cI = cA := zk_eqI (k := 0) hK rfl hK1
  have h9R := zRe (ws' := ((m0, .inr (8, (.int 0 :: .int 20 :: .int 0 :: .int 0 :: .int 0 :: .int 60 :: .int 0 :: .int 3 :: .int 1 :: .int (-1) :: .ref q_1 :: .ref q_2 :: .ref q_3 :: .ref q_4 :: .ref q_5 :: .ref q_6 :: .ref q_7 :: .ref q_8 :: .ref q_9 :: .ref q_10 :: .ref q_11 :: .ref q_12 :: .ref q_13 :: .ref q_14 :: .ref q_15 :: .ref q_16 :: .int 0 :: .int 0 :: .int 0 :: .int 0 :: .int 0 :: .ref q_17 :: .ref q_18 :: .ref q_19 :: .ref q_20 :: .null :: .int 0 :: .int 0 :: []))) :: (q_1, .inl (cI, 8, .inl (fun _ => 0))) :: (q_2, .inl (cI, 8, .inl (fun _ => 0))) :: (q_3, .inl (cI, 8, .inl (fun _ => 0))) :: (q_4, .inl (cI, 8, .inl (fun _ => 0))) :: (q_5, .inl (cI, 40, .inl (fun _ => 0))) :: (q_6, .inl (cI, 40, .inl (fun _ => 0))) :: (q_7, .inl (cI, 3, .inl (zL3 5 10 50))) :: (q_8, .inl (cI, 8, .inl (fun _ => 0))) :: (q_9, .inl (cI, 8, .inl (fun _ => 0))) :: (q_10, .inl (cI, 8, .inl (fun _ => 0))) :: (q_11, .inl (cI, 8, .inl (fun _ => 0))) :: (q_12, .inl (cJ, 1280, .inr (.inl (fun _ => 0)))) :: (q_13, .inl (cJ, 160, .inr (.inl (fun _ => 0)))) :: (q_14, .inl (cI, 64, .inl (upd (upd (upd (upd (upd (upd (upd (upd (upd (upd (upd (upd (upd (upd (upd (upd (upd (upd (upd (upd (upd (upd (upd (upd (upd (upd (upd (upd (upd (upd (upd (upd (upd (upd (upd (upd (upd (upd (upd (upd (upd (upd (upd (upd (upd (upd (upd (upd (upd (upd (upd (upd (upd (upd (upd (upd (upd (upd (upd (upd (upd (upd (upd (upd (fun _ => 0) (0 : Int32).toNatClampNeg 116) (1 : Int32).toNatClampNeg 101) (2 : Int32).toNatClampNeg 101) (3 : Int32).toNatClampNeg 116) (4 : Int32).toNatClampNeg 104) (5 : Int32).toNatClampNeg 32) (6 : Int32).toNatClampNeg 0) (7 : Int32).toNatClampNeg 108) (8 : Int32).toNatClampNeg 97) (9 : Int32).toNatClampNeg 99) (10 : Int32).toNatClampNeg 107) (11 : Int32).toNatClampNeg 32) (12 : Int32).toNatClampNeg 0) (13 : Int32).toNatClampNeg 115) (14 : Int32).toNatClampNeg 108) (15 : Int32).toNatClampNeg 97) (16 : Int32).toNatClampNeg 99) (17 : Int32).toNatClampNeg 107) (18 : Int32).toNatClampNeg 32) (19 : Int32).toNatClampNeg 0) (20 : Int32).toNatClampNeg 112) (21 : Int32).toNatClampNeg 117) (22 : Int32).toNatClampNeg 108) (23 : Int32).toNatClampNeg 108) (24 : Int32).toNatClampNeg 32) (25 : Int32).toNatClampNeg 0) (26 : Int32).toNatClampNeg 100) (27 : Int32).toNatClampNeg 101) (28 : Int32).toNatClampNeg 112) (29 : Int32).toNatClampNeg 116) (30 : Int32).toNatClampNeg 104) (31 : Int32).toNatClampNeg 32) (32 : Int32).toNatClampNeg 0) (33 : Int32).toNatClampNeg 115) (34 : Int32).toNatClampNeg 101) (35 : Int32).toNatClampNeg 99) (36 : Int32).toNatClampNeg 111) (37 : Int32).toNatClampNeg 110) (38 : Int32).toNatClampNeg 100) (39 : Int32).toNatClampNeg 115) (40 : Int32).toNatClampNeg 32) (41 : Int32).toNatClampNeg 0) (42 : Int32).toNatClampNeg 104) (43 : Int32).toNatClampNeg 117) (44 : Int32).toNatClampNeg 114) (45 : Int32).toNatClampNeg 114) (46 : Int32).toNatClampNeg 121) (47 : Int32).toNatClampNeg 32) (48 : Int32).toNatClampNeg 0) (49 : Int32).toNatClampNeg 103) (50 : Int32).toNatClampNeg 97) (51 : Int32).toNatClampNeg 112) (52 : Int32).toNatClampNeg 32) (53 : Int32).toNatClampNeg 0) (54 : Int32).toNatClampNeg 99) (55 : Int32).toNatClampNeg 111) (56 : Int32).toNatClampNeg 115) (57 : Int32).toNatClampNeg 116) (58 : Int32).toNatClampNeg 32) (59 : Int32).toNatClampNeg 0) (60 : Int32).toNatClampNeg 97) (61 : Int32).toNatClampNeg 116) (62 : Int32).toNatClampNeg 32) (63 : Int32).toNatClampNeg 0))) :: (q_15, .inl (cI, 10, .inl (upd (upd (upd (upd (upd (upd (upd (upd (upd (upd (fun _ => 0) (0 : Int32).toNatClampNeg 1) (1 : Int32).toNatClampNeg 1) (2 : Int32).toNatClampNeg 2) (3 : Int32).toNatClampNeg 3) (4 : Int32).toNatClampNeg 1) (5 : Int32).toNatClampNeg 1) (6 : Int32).toNatClampNeg 1) (7 : Int32).toNatClampNeg 1) (8 : Int32).toNatClampNeg 2) (9 : Int32).toNatClampNeg 1))) :: (q_16, .inl (cI, 3, .inl (fun _ => 0))) :: (q_17, .inl (cI, 130, .inl (fun _ => 0))) :: (q_18, .inl (cI, 130, .inl (fun _ => 0))) :: (q_19, .inl (cI, 3, .inl (fun _ => 0))) :: (q_20, .inl (cI, 3, .inl (fun _ => 0))) :: (q_21, .inl (cI, 20, .inl (fun _ => 0))) :: [])) hP hD rfl
  clear hP hD
  obtain ⟨hP, hD⟩ := h9R
  refine W.widen (k := 21) (n := 1950) (Nat.le_of_ble_eq_true rfl) (Nat.le_of_ble_eq_true rfl) ?_
  refine va_putF (D := D) (ci := 8) (v := .ref q_21) (ty := (.array .int)) (C := RX8) (T := TX8) (N := 38) hx hb hts hi_X8_init_8 tyX8 tyX8_ok nmX8 hown hK hP hD hS 0 rfl rfl 35 (by decide) (hts (.fieldLink RX8 87 "TheLiningsInItModel" "trace" "[I") (List.mem_of_getElem? (i := 31) rfl)) (fun _ h9 => h9) rfl hin rfl (tyX8_ok 35 (Nat.le_of_ble_eq_true rfl)) rfl rfl (Nat.le_of_ble_eq_true rfl) dX8_init_622 (fun H locs hP hD hS => ?_)
  have h9R := zRe (ws' := ((zMO m0 0 20 0 0 0 60 0 3 1 (-1) q_1 q_2 q_3 q_4 q_5 q_6 q_7 q_8 q_9 q_10 q_11 q_12 q_13 q_14 q_15 q_16 0 0 0 0 0 q_17 q_18 q_19 q_20 q_21 0 0) :: (q_1, .inl (cI, 8, .inl (fun _ => 0))) :: (q_2, .inl (cI, 8, .inl (fun _ => 0))) :: (q_3, .inl (cI, 8, .inl (fun _ => 0))) :: (q_4, .inl (cI, 8, .inl (fun _ => 0))) :: (q_5, .inl (cI, 40, .inl (fun _ => 0))) :: (q_6, .inl (cI, 40, .inl (fun _ => 0))) :: (q_7, .inl (cI, 3, .inl (zL3 5 10 50))) :: (q_8, .inl (cI, 8, .inl (fun _ => 0))) :: (q_9, .inl (cI, 8, .inl (fun _ => 0))) :: (q_10, .inl (cI, 8, .inl (fun _ => 0))) :: (q_11, .inl (cI, 8, .inl (fun _ => 0))) :: (q_12, .inl (cJ, 1280, .inr (.inl (fun _ => 0)))) :: (q_13, .inl (cJ, 160, .inr (.inl (fun _ => 0)))) :: (q_14, .inl (cI, 64, .inl (upd (upd (upd (upd (upd (upd (upd (upd (upd (upd (upd (upd (upd (upd (upd (upd (upd (upd (upd (upd (upd (upd (upd (upd (upd (upd (upd (upd (upd (upd (upd (upd (upd (upd (upd (upd (upd (upd (upd (upd (upd (upd (upd (upd (upd (upd (upd (upd (upd (upd (upd (upd (upd (upd (upd (upd (upd (upd (upd (upd (upd (upd (upd (upd (fun _ => 0) (0 : Int32).toNatClampNeg 116) (1 : Int32).toNatClampNeg 101) (2 : Int32).toNatClampNeg 101) (3 : Int32).toNatClampNeg 116) (4 : Int32).toNatClampNeg 104) (5 : Int32).toNatClampNeg 32) (6 : Int32).toNatClampNeg 0) (7 : Int32).toNatClampNeg 108) (8 : Int32).toNatClampNeg 97) (9 : Int32).toNatClampNeg 99) (10 : Int32).toNatClampNeg 107) (11 : Int32).toNatClampNeg 32) (12 : Int32).toNatClampNeg 0) (13 : Int32).toNatClampNeg 115) (14 : Int32).toNatClampNeg 108) (15 : Int32).toNatClampNeg 97) (16 : Int32).toNatClampNeg 99) (17 : Int32).toNatClampNeg 107) (18 : Int32).toNatClampNeg 32) (19 : Int32).toNatClampNeg 0) (20 : Int32).toNatClampNeg 112) (21 : Int32).toNatClampNeg 117) (22 : Int32).toNatClampNeg 108) (23 : Int32).toNatClampNeg 108) (24 : Int32).toNatClampNeg 32) (25 : Int32).toNatClampNeg 0) (26 : Int32).toNatClampNeg 100) (27 : Int32).toNatClampNeg 101) (28 : Int32).toNatClampNeg 112) (29 : Int32).toNatClampNeg 116) (30 : Int32).toNatClampNeg 104) (31 : Int32).toNatClampNeg 32) (32 : Int32).toNatClampNeg 0) (33 : Int32).toNatClampNeg 115) (34 : Int32).toNatClampNeg 101) (35 : Int32).toNatClampNeg 99) (36 : Int32).toNatClampNeg 111) (37 : Int32).toNatClampNeg 110) (38 : Int32).toNatClampNeg 100) (39 : Int32).toNatClampNeg 115) (40 : Int32).toNatClampNeg 32) (41 : Int32).toNatClampNeg 0) (42 : Int32).toNatClampNeg 104) (43 : Int32).toNatClampNeg 117) (44 : Int32).toNatClampNeg 114) (45 : Int32).toNatClampNeg 114) (46 : Int32).toNatClampNeg 121) (47 : Int32).toNatClampNeg 32) (48 : Int32).toNatClampNeg 0) (49 : Int32).toNatClampNeg 103) (50 : Int32).toNatClampNeg 97) (51 : Int32).toNatClampNeg 112) (52 : Int32).toNatClampNeg 32) (53 : Int32).toNatClampNeg 0) (54 : Int32).toNatClampNeg 99) (55 : Int32).toNatClampNeg 111) (56 : Int32).toNatClampNeg 115) (57 : Int32).toNatClampNeg 116) (58 : Int32).toNatClampNeg 32) (59 : Int32).toNatClampNeg 0) (60 : Int32).toNatClampNeg 97) (61 : Int32).toNatClampNeg 116) (62 : Int32).toNatClampNeg 32) (63 : Int32).toNatClampNeg 0))) :: (q_15, .inl (cI, 10, .inl (upd (upd (upd (upd (upd (upd (upd (upd (upd (upd (fun _ => 0) (0 : Int32).toNatClampNeg 1) (1 : Int32).toNatClampNeg 1) (2 : Int32).toNatClampNeg 2) (3 : Int32).toNatClampNeg 3) (4 : Int32).toNatClampNeg 1) (5 : Int32).toNatClampNeg 1) (6 : Int32).toNatClampNeg 1) (7 : Int32).toNatClampNeg 1) (8 : Int32).toNatClampNeg 2) (9 : Int32).toNatClampNeg 1))) :: (q_16, .inl (cI, 3, .inl (fun _ => 0))) :: (q_17, .inl (cI, 130, .inl (fun _ => 0))) :: (q_18, .inl (cI, 130, .inl (fun _ => 0))) :: (q_19, .inl (cI, 3, .inl (fun _ => 0))) :: (q_20, .inl (cI, 3, .inl (fun _ => 0))) :: (q_21, .inl (cI, 20, .inl (fun _ => 0))) :: [])) hP hD rfl
  clear hP hD
  obtain ⟨hP, hD⟩ := h9R
  refine W.widen (k := 21) (n := 1985) (Nat.le_of_ble_eq_true rfl) (Nat.le_of_ble_eq_true rfl) ?_
  exact W.vret hx hb hr (fun t ht hW => ⟨⟨(q_1, q_2, q_3, q_4, q_5, q_6, q_7, q_8, q_9, q_10, q_11, q_12, q_13, q_14, q_15, q_16, q_17, q_18, q_19, q_20, q_21), rfl, trivial, zRet ht hP hD [0, 1, 2, 3, 4, 5, 6, 7, 8, 9, 10, 11, 12, 13, 14, 15, 16, 17, 18, 19, 20, 21] (by decide) rfl⟩, hS.F ht⟩) hS.2.2 dX8_init_625
end
section
def wsX1_bodyFor : List Cond := (.code yX1_bodyFor cX1_bodyFor 5 (some .int)) :: (.static yX7_within) :: (.initialized RX7) :: (.code yX7_within cX7_within 3 (some .boolean)) :: (.methodLink RX1 55 yX1_ownBody) :: (.static yX1_ownBody) :: (.initialized RX1) :: (.code yX1_ownBody cX1_ownBody 2 (some .int)) :: []
def wsX1_run : List Cond := (.code yX1_run cX1_run 7 (some .int)) :: (.fieldLink RX1 22 "TheLiningsInIt$Moves" "m" "I") :: (.fieldLink RX1 19 "TheLiningsInIt$Moves" "kind" "I") :: (.fieldLink RX1 25 "TheLiningsInIt$Moves" "k" "I") :: (.methodLink RX1 48 yX1_bodyFor) :: (.static yX1_bodyFor) :: (.initialized RX1) :: (.code yX1_bodyFor cX1_bodyFor 5 (some .int)) :: (.static yX7_within) :: (.initialized RX7) :: (.code yX7_within cX7_within 3 (some .boolean)) :: (.methodLink RX1 55 yX1_ownBody) :: (.static yX1_ownBody) :: (.code yX1_ownBody cX1_ownBody 2 (some .int)) :: (.methodLink RX1 51 yX1_note) :: (.instanceMethod yX1_note) :: (.selects RX1 yX1_note yX1_note) :: (.code yX1_note cX1_note 2 none) :: (.fieldLink RX1 15 "TheLiningsInIt$Moves" "ran" "I") :: (.fieldLink RX1 11 "TheLiningsInIt$Moves" "bodies" "[I") :: (.methodLink RX1 34 yX1_run) :: (.instanceMethod yX1_run) :: (.selects RX1 yX1_run yX1_run) :: wsX10
set_option maxRecDepth 20000 in
theorem ggX1_run_X1_bodyFor : GoodIn wsX1_run wsX1_bodyFor := (dg_c 7 rfl rfl (dg_c 8 rfl rfl (dg_c 9 rfl rfl (dg_c 10 rfl rfl (dg_c 11 rfl rfl (dg_c 12 rfl rfl (dg_c 6 rfl rfl (dg_c 13 rfl rfl dg_0))))))))
set_option maxRecDepth 20000 in
theorem gX1_run_X1_bodyFor : GoodIn wsX1_run (va_wsS RX1 48 yX1_bodyFor wsX1_bodyFor) := goodIn_app (dg_c 4 rfl rfl (dg_c 5 rfl rfl (dg_c 6 rfl rfl dg_0))) ggX1_run_X1_bodyFor
set_option maxRecDepth 20000 in
theorem gl_X1_run_X10 : GoodIn wsX1_run wsX10 := (dg_t (dg_t (dg_t (dg_t (dg_t (dg_t (dg_t (dg_t (dg_t (dg_t (dg_t (dg_t (dg_t (dg_t (dg_t (dg_t (dg_t (dg_t (dg_t (dg_t (dg_t (dg_t (dg_t gw_wsX10)))))))))))))))))))))))
theorem ggX1_run_X1_note : GoodIn wsX1_run wsX1_note := (dg_c 17 rfl rfl (dg_c 18 rfl rfl (dg_c 19 rfl rfl gl_X1_run_X10)))
set_option maxRecDepth 20000 in
theorem gX1_run_X1_note : GoodIn wsX1_run (wsV RX1 51 RX1 yX1_note wsX1_note) := goodIn_app (dg_c 14 rfl rfl (dg_c 15 rfl rfl (dg_c 16 rfl rfl (dg_c 6 rfl rfl dg_0)))) ggX1_run_X1_note
set_option maxRecDepth 20000 in
theorem ggX1_run_X1_run : GoodIn wsX1_run wsX1_run := (dg_c 0 rfl rfl (dg_c 1 rfl rfl (dg_c 2 rfl rfl (dg_c 3 rfl rfl (dg_c 4 rfl rfl (dg_c 5 rfl rfl (dg_c 6 rfl rfl (dg_c 7 rfl rfl (dg_c 8 rfl rfl (dg_c 9 rfl rfl (dg_c 10 rfl rfl (dg_c 11 rfl rfl (dg_c 12 rfl rfl (dg_c 13 rfl rfl (dg_c 14 rfl rfl (dg_c 15 rfl rfl (dg_c 16 rfl rfl (dg_c 17 rfl rfl (dg_c 18 rfl rfl (dg_c 19 rfl rfl (dg_c 20 rfl rfl (dg_c 21 rfl rfl (dg_c 22 rfl rfl gl_X1_run_X10)))))))))))))))))))))))
set_option maxRecDepth 20000 in
theorem gX1_run_X1_run : GoodIn wsX1_run (wsV RX1 34 RX1 yX1_run wsX1_run) := goodIn_app (dg_c 20 rfl rfl (dg_c 21 rfl rfl (dg_c 22 rfl rfl (dg_c 6 rfl rfl dg_0)))) ggX1_run_X1_run
theorem dX1_run_0 : decode cX1_run 0 = .ok (.iload_n 1, 1) := dq_27 dp_cX1_run rfl
theorem dX1_run_1 : decode cX1_run 1 = .ok (.iload_n 2, 1) := dq_28 dp_cX1_run rfl
theorem dX1_run_2 : decode cX1_run 2 = .ok (.invokestatic 48, 3) := dq_184 dp_cX1_run rfl
theorem dX1_run_5 : decode cX1_run 5 = .ok (.istore 5, 2) := dq_54 dp_cX1_run rfl
theorem dX1_run_7 : decode cX1_run 7 = .ok (.iload 5, 2) := dq_21 dp_cX1_run rfl
theorem dX1_run_9 : decode cX1_run 9 = .ok (.iconst (-1), 1) := dq_2 dp_cX1_run rfl
theorem dX1_run_10 : decode cX1_run 10 = .ok (.if_icmp .eq 10, 3) := dq_159 (v := 10) dp_cX1_run rfl rfl
theorem dX1_run_13 : decode cX1_run 13 = .ok (.iload 4, 2) := dq_21 dp_cX1_run rfl
theorem dX1_run_15 : decode cX1_run 15 = .ok (.bipush 40, 2) := dq_16 (v := 40) dp_cX1_run rfl rfl
theorem dX1_run_17 : decode cX1_run 17 = .ok (.if_icmp .lt 5, 3) := dq_161 (v := 5) dp_cX1_run rfl rfl
theorem dX1_run_22 : decode cX1_run 22 = .ok (.aload_n 0, 1) := dq_42 dp_cX1_run rfl
theorem dX1_run_23 : decode cX1_run 23 = .ok (.iload 5, 2) := dq_21 dp_cX1_run rfl
theorem dX1_run_25 : decode cX1_run 25 = .ok (.invokevirtual 51, 3) := dq_182 dp_cX1_run rfl
theorem dX1_run_28 : decode cX1_run 28 = .ok (.iload 4, 2) := dq_21 dp_cX1_run rfl
theorem dX1_run_30 : decode cX1_run 30 = .ok (.iconst 1, 1) := dq_4 dp_cX1_run rfl
theorem dX1_run_31 : decode cX1_run 31 = .ok (.iadd, 1) := dq_96 dp_cX1_run rfl
theorem dX1_run_32 : decode cX1_run 32 = .ok (.istore 6, 2) := dq_54 dp_cX1_run rfl
theorem dX1_run_34 : decode cX1_run 34 = .ok (.iload 5, 2) := dq_21 dp_cX1_run rfl
theorem dX1_run_36 : decode cX1_run 36 = .ok (.lookupswitch 234 #[(10, 92), (11, 99), (12, 114), (20, 145), (30, 160), (40, 172), (50, 184), (51, 195), (60, 210), (70, 222)], 92) := by decide +kernel
theorem dX1_run_128 : decode cX1_run 128 = .ok (.iload_n 3, 1) := dq_29 dp_cX1_run rfl
theorem dX1_run_129 : decode cX1_run 129 = .ok (.aload_n 0, 1) := dq_42 dp_cX1_run rfl
theorem dX1_run_130 : decode cX1_run 130 = .ok (.getfield 22, 3) := dq_180 dp_cX1_run rfl
theorem dX1_run_133 : decode cX1_run 133 = .ok (.iadd, 1) := dq_96 dp_cX1_run rfl
theorem dX1_run_134 : decode cX1_run 134 = .ok (.ireturn, 1) := dq_172 dp_cX1_run rfl
theorem dX1_run_135 : decode cX1_run 135 = .ok (.aload_n 0, 1) := dq_42 dp_cX1_run rfl
theorem dX1_run_136 : decode cX1_run 136 = .ok (.aload_n 0, 1) := dq_42 dp_cX1_run rfl
theorem dX1_run_137 : decode cX1_run 137 = .ok (.getfield 19, 3) := dq_180 dp_cX1_run rfl
theorem dX1_run_140 : decode cX1_run 140 = .ok (.iconst 0, 1) := dq_3 dp_cX1_run rfl
theorem dX1_run_141 : decode cX1_run 141 = .ok (.iload_n 3, 1) := dq_29 dp_cX1_run rfl
theorem dX1_run_142 : decode cX1_run 142 = .ok (.iload 6, 2) := dq_21 dp_cX1_run rfl
theorem dX1_run_144 : decode cX1_run 144 = .ok (.invokevirtual 34, 3) := dq_182 dp_cX1_run rfl
theorem dX1_run_147 : decode cX1_run 147 = .ok (.iconst 2, 1) := dq_5 dp_cX1_run rfl
theorem dX1_run_148 : decode cX1_run 148 = .ok (.imul, 1) := dq_104 dp_cX1_run rfl
theorem dX1_run_149 : decode cX1_run 149 = .ok (.ireturn, 1) := dq_172 dp_cX1_run rfl
theorem dX1_run_150 : decode cX1_run 150 = .ok (.aload_n 0, 1) := dq_42 dp_cX1_run rfl
theorem dX1_run_151 : decode cX1_run 151 = .ok (.aload_n 0, 1) := dq_42 dp_cX1_run rfl
theorem dX1_run_152 : decode cX1_run 152 = .ok (.getfield 19, 3) := dq_180 dp_cX1_run rfl
theorem dX1_run_155 : decode cX1_run 155 = .ok (.iconst 1, 1) := dq_4 dp_cX1_run rfl
theorem dX1_run_156 : decode cX1_run 156 = .ok (.iload_n 3, 1) := dq_29 dp_cX1_run rfl
theorem dX1_run_157 : decode cX1_run 157 = .ok (.iload 6, 2) := dq_21 dp_cX1_run rfl
theorem dX1_run_159 : decode cX1_run 159 = .ok (.invokevirtual 34, 3) := dq_182 dp_cX1_run rfl
theorem dX1_run_162 : decode cX1_run 162 = .ok (.aload_n 0, 1) := dq_42 dp_cX1_run rfl
theorem dX1_run_163 : decode cX1_run 163 = .ok (.aload_n 0, 1) := dq_42 dp_cX1_run rfl
theorem dX1_run_164 : decode cX1_run 164 = .ok (.getfield 19, 3) := dq_180 dp_cX1_run rfl
theorem dX1_run_167 : decode cX1_run 167 = .ok (.iconst 0, 1) := dq_3 dp_cX1_run rfl
theorem dX1_run_168 : decode cX1_run 168 = .ok (.iload_n 3, 1) := dq_29 dp_cX1_run rfl
theorem dX1_run_169 : decode cX1_run 169 = .ok (.aload_n 0, 1) := dq_42 dp_cX1_run rfl
theorem dX1_run_170 : decode cX1_run 170 = .ok (.getfield 25, 3) := dq_180 dp_cX1_run rfl
theorem dX1_run_173 : decode cX1_run 173 = .ok (.isub, 1) := dq_100 dp_cX1_run rfl
theorem dX1_run_174 : decode cX1_run 174 = .ok (.iload 6, 2) := dq_21 dp_cX1_run rfl
theorem dX1_run_176 : decode cX1_run 176 = .ok (.invokevirtual 34, 3) := dq_182 dp_cX1_run rfl
theorem dX1_run_179 : decode cX1_run 179 = .ok (.ixor, 1) := dq_130 dp_cX1_run rfl
theorem dX1_run_180 : decode cX1_run 180 = .ok (.ireturn, 1) := dq_172 dp_cX1_run rfl
theorem dX1_run_181 : decode cX1_run 181 = .ok (.aload_n 0, 1) := dq_42 dp_cX1_run rfl
theorem dX1_run_182 : decode cX1_run 182 = .ok (.iconst 0, 1) := dq_3 dp_cX1_run rfl
theorem dX1_run_183 : decode cX1_run 183 = .ok (.iconst 0, 1) := dq_3 dp_cX1_run rfl
theorem dX1_run_184 : decode cX1_run 184 = .ok (.iload_n 3, 1) := dq_29 dp_cX1_run rfl
theorem dX1_run_185 : decode cX1_run 185 = .ok (.iload 6, 2) := dq_21 dp_cX1_run rfl
theorem dX1_run_187 : decode cX1_run 187 = .ok (.invokevirtual 34, 3) := dq_182 dp_cX1_run rfl
theorem dX1_run_190 : decode cX1_run 190 = .ok (.aload_n 0, 1) := dq_42 dp_cX1_run rfl
theorem dX1_run_191 : decode cX1_run 191 = .ok (.getfield 25, 3) := dq_180 dp_cX1_run rfl
theorem dX1_run_194 : decode cX1_run 194 = .ok (.iadd, 1) := dq_96 dp_cX1_run rfl
theorem dX1_run_195 : decode cX1_run 195 = .ok (.ireturn, 1) := dq_172 dp_cX1_run rfl
theorem dX1_run_196 : decode cX1_run 196 = .ok (.aload_n 0, 1) := dq_42 dp_cX1_run rfl
theorem dX1_run_197 : decode cX1_run 197 = .ok (.iconst 0, 1) := dq_3 dp_cX1_run rfl
theorem dX1_run_198 : decode cX1_run 198 = .ok (.iconst 1, 1) := dq_4 dp_cX1_run rfl
theorem dX1_run_199 : decode cX1_run 199 = .ok (.iload_n 3, 1) := dq_29 dp_cX1_run rfl
theorem dX1_run_200 : decode cX1_run 200 = .ok (.iload 6, 2) := dq_21 dp_cX1_run rfl
theorem dX1_run_202 : decode cX1_run 202 = .ok (.invokevirtual 34, 3) := dq_182 dp_cX1_run rfl
theorem dX1_run_205 : decode cX1_run 205 = .ok (.iconst 3, 1) := dq_6 dp_cX1_run rfl
theorem dX1_run_206 : decode cX1_run 206 = .ok (.imul, 1) := dq_104 dp_cX1_run rfl
theorem dX1_run_207 : decode cX1_run 207 = .ok (.ireturn, 1) := dq_172 dp_cX1_run rfl
theorem dX1_run_208 : decode cX1_run 208 = .ok (.aload_n 0, 1) := dq_42 dp_cX1_run rfl
theorem dX1_run_209 : decode cX1_run 209 = .ok (.iconst 1, 1) := dq_4 dp_cX1_run rfl
theorem dX1_run_210 : decode cX1_run 210 = .ok (.iconst 1, 1) := dq_4 dp_cX1_run rfl
theorem dX1_run_211 : decode cX1_run 211 = .ok (.iload_n 3, 1) := dq_29 dp_cX1_run rfl
theorem dX1_run_212 : decode cX1_run 212 = .ok (.iconst 1, 1) := dq_4 dp_cX1_run rfl
theorem dX1_run_213 : decode cX1_run 213 = .ok (.iadd, 1) := dq_96 dp_cX1_run rfl
theorem dX1_run_214 : decode cX1_run 214 = .ok (.iload 6, 2) := dq_21 dp_cX1_run rfl
theorem dX1_run_216 : decode cX1_run 216 = .ok (.invokevirtual 34, 3) := dq_182 dp_cX1_run rfl
theorem dX1_run_219 : decode cX1_run 219 = .ok (.ireturn, 1) := dq_172 dp_cX1_run rfl
theorem dX1_run_220 : decode cX1_run 220 = .ok (.aload_n 0, 1) := dq_42 dp_cX1_run rfl
theorem dX1_run_221 : decode cX1_run 221 = .ok (.iconst 0, 1) := dq_3 dp_cX1_run rfl
theorem dX1_run_222 : decode cX1_run 222 = .ok (.iconst 2, 1) := dq_5 dp_cX1_run rfl
theorem dX1_run_223 : decode cX1_run 223 = .ok (.iload_n 3, 1) := dq_29 dp_cX1_run rfl
theorem dX1_run_224 : decode cX1_run 224 = .ok (.iload 6, 2) := dq_21 dp_cX1_run rfl
theorem dX1_run_226 : decode cX1_run 226 = .ok (.invokevirtual 34, 3) := dq_182 dp_cX1_run rfl
theorem dX1_run_229 : decode cX1_run 229 = .ok (.ineg, 1) := dq_116 dp_cX1_run rfl
theorem dX1_run_230 : decode cX1_run 230 = .ok (.ireturn, 1) := dq_172 dp_cX1_run rfl
theorem dX1_run_231 : decode cX1_run 231 = .ok (.aload_n 0, 1) := dq_42 dp_cX1_run rfl
theorem dX1_run_232 : decode cX1_run 232 = .ok (.iconst 0, 1) := dq_3 dp_cX1_run rfl
theorem dX1_run_233 : decode cX1_run 233 = .ok (.iconst 0, 1) := dq_3 dp_cX1_run rfl
theorem dX1_run_234 : decode cX1_run 234 = .ok (.iload_n 3, 1) := dq_29 dp_cX1_run rfl
theorem dX1_run_235 : decode cX1_run 235 = .ok (.iload 6, 2) := dq_21 dp_cX1_run rfl
theorem dX1_run_237 : decode cX1_run 237 = .ok (.invokevirtual 34, 3) := dq_182 dp_cX1_run rfl
theorem dX1_run_240 : decode cX1_run 240 = .ok (.aload_n 0, 1) := dq_42 dp_cX1_run rfl
theorem dX1_run_241 : decode cX1_run 241 = .ok (.getfield 22, 3) := dq_180 dp_cX1_run rfl
theorem dX1_run_244 : decode cX1_run 244 = .ok (.isub, 1) := dq_100 dp_cX1_run rfl
theorem dX1_run_245 : decode cX1_run 245 = .ok (.ireturn, 1) := dq_172 dp_cX1_run rfl
theorem dX1_run_246 : decode cX1_run 246 = .ok (.aload_n 0, 1) := dq_42 dp_cX1_run rfl
theorem dX1_run_247 : decode cX1_run 247 = .ok (.iconst 2, 1) := dq_5 dp_cX1_run rfl
theorem dX1_run_248 : decode cX1_run 248 = .ok (.iconst 2, 1) := dq_5 dp_cX1_run rfl
theorem dX1_run_249 : decode cX1_run 249 = .ok (.iload_n 3, 1) := dq_29 dp_cX1_run rfl
theorem dX1_run_250 : decode cX1_run 250 = .ok (.iload 6, 2) := dq_21 dp_cX1_run rfl
theorem dX1_run_252 : decode cX1_run 252 = .ok (.invokevirtual 34, 3) := dq_182 dp_cX1_run rfl
theorem dX1_run_255 : decode cX1_run 255 = .ok (.iconst 5, 1) := dq_8 dp_cX1_run rfl
theorem dX1_run_256 : decode cX1_run 256 = .ok (.ixor, 1) := dq_130 dp_cX1_run rfl
theorem dX1_run_257 : decode cX1_run 257 = .ok (.ireturn, 1) := dq_172 dp_cX1_run rfl
theorem dX1_run_258 : decode cX1_run 258 = .ok (.aload_n 0, 1) := dq_42 dp_cX1_run rfl
theorem dX1_run_259 : decode cX1_run 259 = .ok (.iconst 4, 1) := dq_7 dp_cX1_run rfl
theorem dX1_run_260 : decode cX1_run 260 = .ok (.iconst 0, 1) := dq_3 dp_cX1_run rfl
theorem dX1_run_261 : decode cX1_run 261 = .ok (.iload_n 3, 1) := dq_29 dp_cX1_run rfl
theorem dX1_run_262 : decode cX1_run 262 = .ok (.iload 6, 2) := dq_21 dp_cX1_run rfl
theorem dX1_run_264 : decode cX1_run 264 = .ok (.invokevirtual 34, 3) := dq_182 dp_cX1_run rfl
theorem dX1_run_267 : decode cX1_run 267 = .ok (.iconst 2, 1) := dq_5 dp_cX1_run rfl
theorem dX1_run_268 : decode cX1_run 268 = .ok (.imul, 1) := dq_104 dp_cX1_run rfl
theorem dX1_run_269 : decode cX1_run 269 = .ok (.ireturn, 1) := dq_172 dp_cX1_run rfl
theorem dX1_run_270 : decode cX1_run 270 = .ok (.aload_n 0, 1) := dq_42 dp_cX1_run rfl
theorem dX1_run_271 : decode cX1_run 271 = .ok (.iconst 4, 1) := dq_7 dp_cX1_run rfl
theorem dX1_run_272 : decode cX1_run 272 = .ok (.iconst 1, 1) := dq_4 dp_cX1_run rfl
theorem dX1_run_273 : decode cX1_run 273 = .ok (.iload_n 3, 1) := dq_29 dp_cX1_run rfl
theorem dX1_run_274 : decode cX1_run 274 = .ok (.aload_n 0, 1) := dq_42 dp_cX1_run rfl
theorem dX1_run_275 : decode cX1_run 275 = .ok (.getfield 25, 3) := dq_180 dp_cX1_run rfl
theorem dX1_run_278 : decode cX1_run 278 = .ok (.isub, 1) := dq_100 dp_cX1_run rfl
theorem dX1_run_279 : decode cX1_run 279 = .ok (.iload 6, 2) := dq_21 dp_cX1_run rfl
theorem dX1_run_281 : decode cX1_run 281 = .ok (.invokevirtual 34, 3) := dq_182 dp_cX1_run rfl
theorem dX1_run_284 : decode cX1_run 284 = .ok (.ireturn, 1) := dq_172 dp_cX1_run rfl
set_option maxRecDepth 20000 in
theorem ggX1_bodyFor_X7_within : GoodIn wsX1_bodyFor wsX7_within := (dg_c 3 rfl rfl dg_0)
set_option maxRecDepth 20000 in
theorem gX1_bodyFor_X7_within_n44 : GoodIn wsX1_bodyFor (wsX7_within) := ggX1_bodyFor_X7_within
set_option maxRecDepth 20000 in
theorem ggX1_bodyFor_X1_ownBody : GoodIn wsX1_bodyFor wsX1_ownBody := (dg_c 7 rfl rfl dg_0)
set_option maxRecDepth 20000 in
theorem gX1_bodyFor_X1_ownBody : GoodIn wsX1_bodyFor (va_wsS RX1 55 yX1_ownBody wsX1_ownBody) := goodIn_app (dg_c 4 rfl rfl (dg_c 5 rfl rfl (dg_c 6 rfl rfl dg_0))) ggX1_bodyFor_X1_ownBody
theorem dX1_bodyFor_0 : decode cX1_bodyFor 0 = .ok (.iload_n 0, 1) := dq_26 dp_cX1_bodyFor rfl
theorem dX1_bodyFor_1 : decode cX1_bodyFor 1 = .ok (.istore_n 2, 1) := dq_61 dp_cX1_bodyFor rfl
theorem dX1_bodyFor_2 : decode cX1_bodyFor 2 = .ok (.iconst 0, 1) := dq_3 dp_cX1_bodyFor rfl
theorem dX1_bodyFor_3 : decode cX1_bodyFor 3 = .ok (.istore_n 3, 1) := dq_62 dp_cX1_bodyFor rfl
theorem dX1_bodyFor_4 : decode cX1_bodyFor 4 = .ok (.iload_n 3, 1) := dq_29 dp_cX1_bodyFor rfl
theorem dX1_bodyFor_5 : decode cX1_bodyFor 5 = .ok (.bipush 7, 2) := dq_16 (v := 7) dp_cX1_bodyFor rfl rfl
theorem dX1_bodyFor_7 : decode cX1_bodyFor 7 = .ok (.if_icmp .ge 41, 3) := dq_162 (v := 41) dp_cX1_bodyFor rfl rfl
theorem dX1_bodyFor_10 : decode cX1_bodyFor 10 = .ok (.iload_n 2, 1) := dq_28 dp_cX1_bodyFor rfl
theorem dX1_bodyFor_11 : decode cX1_bodyFor 11 = .ok (.iconst 0, 1) := dq_3 dp_cX1_bodyFor rfl
theorem dX1_bodyFor_12 : decode cX1_bodyFor 12 = .ok (.bipush 6, 2) := dq_16 (v := 6) dp_cX1_bodyFor rfl rfl
theorem dX1_bodyFor_14 : decode cX1_bodyFor 14 = .ok (.invokestatic 44, 3) := dq_184 dp_cX1_bodyFor rfl
theorem dX1_bodyFor_17 : decode cX1_bodyFor 17 = .ok (.ifCond .eq 31, 3) := dq_153 (v := 31) dp_cX1_bodyFor rfl rfl
theorem dX1_bodyFor_20 : decode cX1_bodyFor 20 = .ok (.iload_n 2, 1) := dq_28 dp_cX1_bodyFor rfl
theorem dX1_bodyFor_21 : decode cX1_bodyFor 21 = .ok (.iload_n 1, 1) := dq_27 dp_cX1_bodyFor rfl
theorem dX1_bodyFor_22 : decode cX1_bodyFor 22 = .ok (.invokestatic 55, 3) := dq_184 dp_cX1_bodyFor rfl
theorem dX1_bodyFor_25 : decode cX1_bodyFor 25 = .ok (.istore 4, 2) := dq_54 dp_cX1_bodyFor rfl
theorem dX1_bodyFor_27 : decode cX1_bodyFor 27 = .ok (.iload 4, 2) := dq_21 dp_cX1_bodyFor rfl
theorem dX1_bodyFor_29 : decode cX1_bodyFor 29 = .ok (.iconst (-1), 1) := dq_2 dp_cX1_bodyFor rfl
theorem dX1_bodyFor_30 : decode cX1_bodyFor 30 = .ok (.if_icmp .eq 6, 3) := dq_159 (v := 6) dp_cX1_bodyFor rfl rfl
theorem dX1_bodyFor_33 : decode cX1_bodyFor 33 = .ok (.iload 4, 2) := dq_21 dp_cX1_bodyFor rfl
theorem dX1_bodyFor_35 : decode cX1_bodyFor 35 = .ok (.ireturn, 1) := dq_172 dp_cX1_bodyFor rfl
theorem dX1_bodyFor_36 : decode cX1_bodyFor 36 = .ok (.getstatic 58, 3) := dq_178 dp_cX1_bodyFor rfl
theorem dX1_bodyFor_39 : decode cX1_bodyFor 39 = .ok (.iload_n 2, 1) := dq_28 dp_cX1_bodyFor rfl
theorem dX1_bodyFor_40 : decode cX1_bodyFor 40 = .ok (.iaload, 1) := dq_46 dp_cX1_bodyFor rfl
theorem dX1_bodyFor_41 : decode cX1_bodyFor 41 = .ok (.istore_n 2, 1) := dq_61 dp_cX1_bodyFor rfl
theorem dX1_bodyFor_42 : decode cX1_bodyFor 42 = .ok (.iinc 3 1, 3) := dq_132 (v := 1) dp_cX1_bodyFor rfl (by decide) rfl
theorem dX1_bodyFor_45 : decode cX1_bodyFor 45 = .ok (.goto (-41), 3) := dq_167 (v := 65495) dp_cX1_bodyFor rfl rfl
end
section
set_option maxHeartbeats 4000000 in
set_option maxRecDepth 100000 in
theorem c_M_own_0_0 (l : Launch) (D : va_G) (cI cJ cZ cP cS : ClassId) (po : zPool)   : Met l yX1_ownBody wsX1_ownBody ({ frames := 0, cells := 0, slots := 0, locals := 0 }) (va_Pc [.int 0, .int 0] (zR D (zKT cI cJ cZ cP cS) po [])) (vp_Si (fun r => r = 10)) 0 0 (fun _ => False) := by
  refine Met.ofW (cc := cX1_ownBody) (maxL := 2) (ret := (some .int)) (by decide) rfl ?_
  intro p e s m args below meth c s₁ B hml hv
  obtain ⟨rfl, hP, hK, hN, hZ⟩ := hv
  have hx := B.exec
  have hb := B.bytes
  have hr := B.returns
  have hts := atoms_spec (ws := wsX1_ownBody) B.pre
  have hown : s.vm.findClass RX1 = some m.cls := findClass_of_methodNamed B.named
  have hlocks := B.notSynchronized
  have hl := lv_entry ([.int 0, .int 0]) (n := 2) (Nat.le_of_ble_eq_true rfl)
  rw [lg_entry_eq]
  generalize (lg_sl ([.int 0, .int 0]) ++ List.replicate (2 - (lg_sl ([.int 0, .int 0])).length) Slot.unset).toArray = ls at hl ⊢
  replace hl : lv_has ls 2 [(0, .int 0), (1, .int 0)] := hl
  refine lv_iload_n hx hb dX1_ownBody_0 rfl (lv_at hl 0 rfl) ?_
  refine lv_tableIn (tgt := 40) hx hb dX1_ownBody_1 (by decide) (by decide) rfl (by decide) ?_
  refine lv_bipush (v := 10) hx hb dX1_ownBody_40 (by decide) ?_
  refine lv_iload_n hx hb dX1_ownBody_42 rfl (lv_at hl 1 rfl) ?_
  refine lv_iadd hx hb dX1_ownBody_43 ?_
  refine lv_topi (fun y_1 ey_1 => ?_)
  obtain rfl : y_1 = 10 := ey_1.trans (by decide)
  exact W.iret (v := 10) hx hb hr (fun t ht hW => ⟨10, rfl, rfl, ht⟩) (fun q hq => by cases hq) dX1_ownBody_44
set_option maxHeartbeats 4000000 in
set_option maxRecDepth 100000 in
theorem c_M_own_0_1 (l : Launch) (D : va_G) (cI cJ cZ cP cS : ClassId) (po : zPool)   : Met l yX1_ownBody wsX1_ownBody ({ frames := 0, cells := 0, slots := 0, locals := 0 }) (va_Pc [.int 0, .int 1] (zR D (zKT cI cJ cZ cP cS) po [])) (vp_Si (fun r => r = 11)) 0 0 (fun _ => False) := by
  refine Met.ofW (cc := cX1_ownBody) (maxL := 2) (ret := (some .int)) (by decide) rfl ?_
  intro p e s m args below meth c s₁ B hml hv
  obtain ⟨rfl, hP, hK, hN, hZ⟩ := hv
  have hx := B.exec
  have hb := B.bytes
  have hr := B.returns
  have hts := atoms_spec (ws := wsX1_ownBody) B.pre
  have hown : s.vm.findClass RX1 = some m.cls := findClass_of_methodNamed B.named
  have hlocks := B.notSynchronized
  have hl := lv_entry ([.int 0, .int 1]) (n := 2) (Nat.le_of_ble_eq_true rfl)
  rw [lg_entry_eq]
  generalize (lg_sl ([.int 0, .int 1]) ++ List.replicate (2 - (lg_sl ([.int 0, .int 1])).length) Slot.unset).toArray = ls at hl ⊢
  replace hl : lv_has ls 2 [(0, .int 0), (1, .int 1)] := hl
  refine lv_iload_n hx hb dX1_ownBody_0 rfl (lv_at hl 0 rfl) ?_
  refine lv_tableIn (tgt := 40) hx hb dX1_ownBody_1 (by decide) (by decide) rfl (by decide) ?_
  refine lv_bipush (v := 10) hx hb dX1_ownBody_40 (by decide) ?_
  refine lv_iload_n hx hb dX1_ownBody_42 rfl (lv_at hl 1 rfl) ?_
  refine lv_iadd hx hb dX1_ownBody_43 ?_
  refine lv_topi (fun y_1 ey_1 => ?_)
  obtain rfl : y_1 = 11 := ey_1.trans (by decide)
  exact W.iret (v := 11) hx hb hr (fun t ht hW => ⟨11, rfl, rfl, ht⟩) (fun q hq => by cases hq) dX1_ownBody_44
set_option maxHeartbeats 4000000 in
set_option maxRecDepth 100000 in
theorem c_M_own_0_2 (l : Launch) (D : va_G) (cI cJ cZ cP cS : ClassId) (po : zPool)   : Met l yX1_ownBody wsX1_ownBody ({ frames := 0, cells := 0, slots := 0, locals := 0 }) (va_Pc [.int 0, .int 2] (zR D (zKT cI cJ cZ cP cS) po [])) (vp_Si (fun r => r = 12)) 0 0 (fun _ => False) := by
  refine Met.ofW (cc := cX1_ownBody) (maxL := 2) (ret := (some .int)) (by decide) rfl ?_
  intro p e s m args below meth c s₁ B hml hv
  obtain ⟨rfl, hP, hK, hN, hZ⟩ := hv
  have hx := B.exec
  have hb := B.bytes
  have hr := B.returns
  have hts := atoms_spec (ws := wsX1_ownBody) B.pre
  have hown : s.vm.findClass RX1 = some m.cls := findClass_of_methodNamed B.named
  have hlocks := B.notSynchronized
  have hl := lv_entry ([.int 0, .int 2]) (n := 2) (Nat.le_of_ble_eq_true rfl)
  rw [lg_entry_eq]
  generalize (lg_sl ([.int 0, .int 2]) ++ List.replicate (2 - (lg_sl ([.int 0, .int 2])).length) Slot.unset).toArray = ls at hl ⊢
  replace hl : lv_has ls 2 [(0, .int 0), (1, .int 2)] := hl
  refine lv_iload_n hx hb dX1_ownBody_0 rfl (lv_at hl 0 rfl) ?_
  refine lv_tableIn (tgt := 40) hx hb dX1_ownBody_1 (by decide) (by decide) rfl (by decide) ?_
  refine lv_bipush (v := 10) hx hb dX1_ownBody_40 (by decide) ?_
  refine lv_iload_n hx hb dX1_ownBody_42 rfl (lv_at hl 1 rfl) ?_
  refine lv_iadd hx hb dX1_ownBody_43 ?_
  refine lv_topi (fun y_1 ey_1 => ?_)
  obtain rfl : y_1 = 12 := ey_1.trans (by decide)
  exact W.iret (v := 12) hx hb hr (fun t ht hW => ⟨12, rfl, rfl, ht⟩) (fun q hq => by cases hq) dX1_ownBody_44
set_option maxHeartbeats 4000000 in
set_option maxRecDepth 100000 in
theorem c_M_own_1_0 (l : Launch) (D : va_G) (cI cJ cZ cP cS : ClassId) (po : zPool)   : Met l yX1_ownBody wsX1_ownBody ({ frames := 0, cells := 0, slots := 0, locals := 0 }) (va_Pc [.int 1, .int 0] (zR D (zKT cI cJ cZ cP cS) po [])) (vp_Si (fun r => r = 20)) 0 0 (fun _ => False) := by
  refine Met.ofW (cc := cX1_ownBody) (maxL := 2) (ret := (some .int)) (by decide) rfl ?_
  intro p e s m args below meth c s₁ B hml hv
  obtain ⟨rfl, hP, hK, hN, hZ⟩ := hv
  have hx := B.exec
  have hb := B.bytes
  have hr := B.returns
  have hts := atoms_spec (ws := wsX1_ownBody) B.pre
  have hown : s.vm.findClass RX1 = some m.cls := findClass_of_methodNamed B.named
  have hlocks := B.notSynchronized
  have hl := lv_entry ([.int 1, .int 0]) (n := 2) (Nat.le_of_ble_eq_true rfl)
  rw [lg_entry_eq]
  generalize (lg_sl ([.int 1, .int 0]) ++ List.replicate (2 - (lg_sl ([.int 1, .int 0])).length) Slot.unset).toArray = ls at hl ⊢
  replace hl : lv_has ls 2 [(0, .int 1), (1, .int 0)] := hl
  refine lv_iload_n hx hb dX1_ownBody_0 rfl (lv_at hl 0 rfl) ?_
  refine lv_tableIn (tgt := 45) hx hb dX1_ownBody_1 (by decide) (by decide) rfl (by decide) ?_
  refine lv_iload_n hx hb dX1_ownBody_45 rfl (lv_at hl 1 rfl) ?_
  refine lv_if_ne (tgt := 54) hx hb dX1_ownBody_46 (by decide) (fun c_1 => ?_) (fun c_1 => ?_)
  · exact absurd c_1 (by decide)
  · refine lv_bipush (v := 20) hx hb dX1_ownBody_49 (by decide) ?_
    refine lv_goto (tgt := 55) hx hb dX1_ownBody_51 (by decide) ?_
    exact W.iret (v := 20) hx hb hr (fun t ht hW => ⟨20, rfl, rfl, ht⟩) (fun q hq => by cases hq) dX1_ownBody_55
set_option maxHeartbeats 4000000 in
set_option maxRecDepth 100000 in
theorem c_M_own_1_1 (l : Launch) (D : va_G) (cI cJ cZ cP cS : ClassId) (po : zPool)   : Met l yX1_ownBody wsX1_ownBody ({ frames := 0, cells := 0, slots := 0, locals := 0 }) (va_Pc [.int 1, .int 1] (zR D (zKT cI cJ cZ cP cS) po [])) (vp_Si (fun r => r = (-1))) 0 0 (fun _ => False) := by
  refine Met.ofW (cc := cX1_ownBody) (maxL := 2) (ret := (some .int)) (by decide) rfl ?_
  intro p e s m args below meth c s₁ B hml hv
  obtain ⟨rfl, hP, hK, hN, hZ⟩ := hv
  have hx := B.exec
  have hb := B.bytes
  have hr := B.returns
  have hts := atoms_spec (ws := wsX1_ownBody) B.pre
  have hown : s.vm.findClass RX1 = some m.cls := findClass_of_methodNamed B.named
  have hlocks := B.notSynchronized
  have hl := lv_entry ([.int 1, .int 1]) (n := 2) (Nat.le_of_ble_eq_true rfl)
  rw [lg_entry_eq]
  generalize (lg_sl ([.int 1, .int 1]) ++ List.replicate (2 - (lg_sl ([.int 1, .int 1])).length) Slot.unset).toArray = ls at hl ⊢
  replace hl : lv_has ls 2 [(0, .int 1), (1, .int 1)] := hl
  refine lv_iload_n hx hb dX1_ownBody_0 rfl (lv_at hl 0 rfl) ?_
  refine lv_tableIn (tgt := 45) hx hb dX1_ownBody_1 (by decide) (by decide) rfl (by decide) ?_
  refine lv_iload_n hx hb dX1_ownBody_45 rfl (lv_at hl 1 rfl) ?_
  refine lv_if_ne (tgt := 54) hx hb dX1_ownBody_46 (by decide) (fun c_1 => ?_) (fun c_1 => ?_)
  · refine lv_iconst (v := (-1)) hx hb dX1_ownBody_54 (by decide) ?_
    exact W.iret (v := (-1)) hx hb hr (fun t ht hW => ⟨(-1), rfl, rfl, ht⟩) (fun q hq => by cases hq) dX1_ownBody_55
  · exact absurd c_1 (by decide)
set_option maxHeartbeats 4000000 in
set_option maxRecDepth 100000 in
theorem c_M_own_1_2 (l : Launch) (D : va_G) (cI cJ cZ cP cS : ClassId) (po : zPool)   : Met l yX1_ownBody wsX1_ownBody ({ frames := 0, cells := 0, slots := 0, locals := 0 }) (va_Pc [.int 1, .int 2] (zR D (zKT cI cJ cZ cP cS) po [])) (vp_Si (fun r => r = (-1))) 0 0 (fun _ => False) := by
  refine Met.ofW (cc := cX1_ownBody) (maxL := 2) (ret := (some .int)) (by decide) rfl ?_
  intro p e s m args below meth c s₁ B hml hv
  obtain ⟨rfl, hP, hK, hN, hZ⟩ := hv
  have hx := B.exec
  have hb := B.bytes
  have hr := B.returns
  have hts := atoms_spec (ws := wsX1_ownBody) B.pre
  have hown : s.vm.findClass RX1 = some m.cls := findClass_of_methodNamed B.named
  have hlocks := B.notSynchronized
  have hl := lv_entry ([.int 1, .int 2]) (n := 2) (Nat.le_of_ble_eq_true rfl)
  rw [lg_entry_eq]
  generalize (lg_sl ([.int 1, .int 2]) ++ List.replicate (2 - (lg_sl ([.int 1, .int 2])).length) Slot.unset).toArray = ls at hl ⊢
  replace hl : lv_has ls 2 [(0, .int 1), (1, .int 2)] := hl
  refine lv_iload_n hx hb dX1_ownBody_0 rfl (lv_at hl 0 rfl) ?_
  refine lv_tableIn (tgt := 45) hx hb dX1_ownBody_1 (by decide) (by decide) rfl (by decide) ?_
  refine lv_iload_n hx hb dX1_ownBody_45 rfl (lv_at hl 1 rfl) ?_
  refine lv_if_ne (tgt := 54) hx hb dX1_ownBody_46 (by decide) (fun c_1 => ?_) (fun c_1 => ?_)
  · refine lv_iconst (v := (-1)) hx hb dX1_ownBody_54 (by decide) ?_
    exact W.iret (v := (-1)) hx hb hr (fun t ht hW => ⟨(-1), rfl, rfl, ht⟩) (fun q hq => by cases hq) dX1_ownBody_55
  · exact absurd c_1 (by decide)
set_option maxHeartbeats 4000000 in
set_option maxRecDepth 100000 in
theorem c_M_own_2_0 (l : Launch) (D : va_G) (cI cJ cZ cP cS : ClassId) (po : zPool)   : Met l yX1_ownBody wsX1_ownBody ({ frames := 0, cells := 0, slots := 0, locals := 0 }) (va_Pc [.int 2, .int 0] (zR D (zKT cI cJ cZ cP cS) po [])) (vp_Si (fun r => r = (-1))) 0 0 (fun _ => False) := by
  refine Met.ofW (cc := cX1_ownBody) (maxL := 2) (ret := (some .int)) (by decide) rfl ?_
  intro p e s m args below meth c s₁ B hml hv
  obtain ⟨rfl, hP, hK, hN, hZ⟩ := hv
  have hx := B.exec
  have hb := B.bytes
  have hr := B.returns
  have hts := atoms_spec (ws := wsX1_ownBody) B.pre
  have hown : s.vm.findClass RX1 = some m.cls := findClass_of_methodNamed B.named
  have hlocks := B.notSynchronized
  have hl := lv_entry ([.int 2, .int 0]) (n := 2) (Nat.le_of_ble_eq_true rfl)
  rw [lg_entry_eq]
  generalize (lg_sl ([.int 2, .int 0]) ++ List.replicate (2 - (lg_sl ([.int 2, .int 0])).length) Slot.unset).toArray = ls at hl ⊢
  replace hl : lv_has ls 2 [(0, .int 2), (1, .int 0)] := hl
  refine lv_iload_n hx hb dX1_ownBody_0 rfl (lv_at hl 0 rfl) ?_
  refine lv_tableIn (tgt := 56) hx hb dX1_ownBody_1 (by decide) (by decide) rfl (by decide) ?_
  refine lv_iload_n hx hb dX1_ownBody_56 rfl (lv_at hl 1 rfl) ?_
  refine lv_iconst (v := 1) hx hb dX1_ownBody_57 (by decide) ?_
  refine lv_icmp_ne (tgt := 66) hx hb dX1_ownBody_58 (by decide) (fun c_1 => ?_) (fun c_1 => ?_)
  · refine lv_iconst (v := (-1)) hx hb dX1_ownBody_66 (by decide) ?_
    exact W.iret (v := (-1)) hx hb hr (fun t ht hW => ⟨(-1), rfl, rfl, ht⟩) (fun q hq => by cases hq) dX1_ownBody_67
  · exact absurd c_1 (by decide)
set_option maxHeartbeats 4000000 in
set_option maxRecDepth 100000 in
theorem c_M_own_2_1 (l : Launch) (D : va_G) (cI cJ cZ cP cS : ClassId) (po : zPool)   : Met l yX1_ownBody wsX1_ownBody ({ frames := 0, cells := 0, slots := 0, locals := 0 }) (va_Pc [.int 2, .int 1] (zR D (zKT cI cJ cZ cP cS) po [])) (vp_Si (fun r => r = 30)) 0 0 (fun _ => False) := by
  refine Met.ofW (cc := cX1_ownBody) (maxL := 2) (ret := (some .int)) (by decide) rfl ?_
  intro p e s m args below meth c s₁ B hml hv
  obtain ⟨rfl, hP, hK, hN, hZ⟩ := hv
  have hx := B.exec
  have hb := B.bytes
  have hr := B.returns
  have hts := atoms_spec (ws := wsX1_ownBody) B.pre
  have hown : s.vm.findClass RX1 = some m.cls := findClass_of_methodNamed B.named
  have hlocks := B.notSynchronized
  have hl := lv_entry ([.int 2, .int 1]) (n := 2) (Nat.le_of_ble_eq_true rfl)
  rw [lg_entry_eq]
  generalize (lg_sl ([.int 2, .int 1]) ++ List.replicate (2 - (lg_sl ([.int 2, .int 1])).length) Slot.unset).toArray = ls at hl ⊢
  replace hl : lv_has ls 2 [(0, .int 2), (1, .int 1)] := hl
  refine lv_iload_n hx hb dX1_ownBody_0 rfl (lv_at hl 0 rfl) ?_
  refine lv_tableIn (tgt := 56) hx hb dX1_ownBody_1 (by decide) (by decide) rfl (by decide) ?_
  refine lv_iload_n hx hb dX1_ownBody_56 rfl (lv_at hl 1 rfl) ?_
  refine lv_iconst (v := 1) hx hb dX1_ownBody_57 (by decide) ?_
  refine lv_icmp_ne (tgt := 66) hx hb dX1_ownBody_58 (by decide) (fun c_1 => ?_) (fun c_1 => ?_)
  · exact absurd c_1 (by decide)
  · refine lv_bipush (v := 30) hx hb dX1_ownBody_61 (by decide) ?_
    refine lv_goto (tgt := 67) hx hb dX1_ownBody_63 (by decide) ?_
    exact W.iret (v := 30) hx hb hr (fun t ht hW => ⟨30, rfl, rfl, ht⟩) (fun q hq => by cases hq) dX1_ownBody_67
set_option maxHeartbeats 4000000 in
set_option maxRecDepth 100000 in
theorem c_M_own_2_2 (l : Launch) (D : va_G) (cI cJ cZ cP cS : ClassId) (po : zPool)   : Met l yX1_ownBody wsX1_ownBody ({ frames := 0, cells := 0, slots := 0, locals := 0 }) (va_Pc [.int 2, .int 2] (zR D (zKT cI cJ cZ cP cS) po [])) (vp_Si (fun r => r = (-1))) 0 0 (fun _ => False) := by
  refine Met.ofW (cc := cX1_ownBody) (maxL := 2) (ret := (some .int)) (by decide) rfl ?_
  intro p e s m args below meth c s₁ B hml hv
  obtain ⟨rfl, hP, hK, hN, hZ⟩ := hv
  have hx := B.exec
  have hb := B.bytes
  have hr := B.returns
  have hts := atoms_spec (ws := wsX1_ownBody) B.pre
  have hown : s.vm.findClass RX1 = some m.cls := findClass_of_methodNamed B.named
  have hlocks := B.notSynchronized
  have hl := lv_entry ([.int 2, .int 2]) (n := 2) (Nat.le_of_ble_eq_true rfl)
  rw [lg_entry_eq]
  generalize (lg_sl ([.int 2, .int 2]) ++ List.replicate (2 - (lg_sl ([.int 2, .int 2])).length) Slot.unset).toArray = ls at hl ⊢
  replace hl : lv_has ls 2 [(0, .int 2), (1, .int 2)] := hl
  refine lv_iload_n hx hb dX1_ownBody_0 rfl (lv_at hl 0 rfl) ?_
  refine lv_tableIn (tgt := 56) hx hb dX1_ownBody_1 (by decide) (by decide) rfl (by decide) ?_
  refine lv_iload_n hx hb dX1_ownBody_56 rfl (lv_at hl 1 rfl) ?_
  refine lv_iconst (v := 1) hx hb dX1_ownBody_57 (by decide) ?_
  refine lv_icmp_ne (tgt := 66) hx hb dX1_ownBody_58 (by decide) (fun c_1 => ?_) (fun c_1 => ?_)
  · refine lv_iconst (v := (-1)) hx hb dX1_ownBody_66 (by decide) ?_
    exact W.iret (v := (-1)) hx hb hr (fun t ht hW => ⟨(-1), rfl, rfl, ht⟩) (fun q hq => by cases hq) dX1_ownBody_67
  · exact absurd c_1 (by decide)
set_option maxHeartbeats 4000000 in
set_option maxRecDepth 100000 in
theorem c_M_own_3_0 (l : Launch) (D : va_G) (cI cJ cZ cP cS : ClassId) (po : zPool)   : Met l yX1_ownBody wsX1_ownBody ({ frames := 0, cells := 0, slots := 0, locals := 0 }) (va_Pc [.int 3, .int 0] (zR D (zKT cI cJ cZ cP cS) po [])) (vp_Si (fun r => r = (-1))) 0 0 (fun _ => False) := by
  refine Met.ofW (cc := cX1_ownBody) (maxL := 2) (ret := (some .int)) (by decide) rfl ?_
  intro p e s m args below meth c s₁ B hml hv
  obtain ⟨rfl, hP, hK, hN, hZ⟩ := hv
  have hx := B.exec
  have hb := B.bytes
  have hr := B.returns
  have hts := atoms_spec (ws := wsX1_ownBody) B.pre
  have hown : s.vm.findClass RX1 = some m.cls := findClass_of_methodNamed B.named
  have hlocks := B.notSynchronized
  have hl := lv_entry ([.int 3, .int 0]) (n := 2) (Nat.le_of_ble_eq_true rfl)
  rw [lg_entry_eq]
  generalize (lg_sl ([.int 3, .int 0]) ++ List.replicate (2 - (lg_sl ([.int 3, .int 0])).length) Slot.unset).toArray = ls at hl ⊢
  replace hl : lv_has ls 2 [(0, .int 3), (1, .int 0)] := hl
  refine lv_iload_n hx hb dX1_ownBody_0 rfl (lv_at hl 0 rfl) ?_
  refine lv_tableIn (tgt := 68) hx hb dX1_ownBody_1 (by decide) (by decide) rfl (by decide) ?_
  refine lv_iload_n hx hb dX1_ownBody_68 rfl (lv_at hl 1 rfl) ?_
  refine lv_iconst (v := 1) hx hb dX1_ownBody_69 (by decide) ?_
  refine lv_icmp_ne (tgt := 78) hx hb dX1_ownBody_70 (by decide) (fun c_1 => ?_) (fun c_1 => ?_)
  · refine lv_iconst (v := (-1)) hx hb dX1_ownBody_78 (by decide) ?_
    exact W.iret (v := (-1)) hx hb hr (fun t ht hW => ⟨(-1), rfl, rfl, ht⟩) (fun q hq => by cases hq) dX1_ownBody_79
  · exact absurd c_1 (by decide)
set_option maxHeartbeats 4000000 in
set_option maxRecDepth 100000 in
theorem c_M_own_3_1 (l : Launch) (D : va_G) (cI cJ cZ cP cS : ClassId) (po : zPool)   : Met l yX1_ownBody wsX1_ownBody ({ frames := 0, cells := 0, slots := 0, locals := 0 }) (va_Pc [.int 3, .int 1] (zR D (zKT cI cJ cZ cP cS) po [])) (vp_Si (fun r => r = 40)) 0 0 (fun _ => False) := by
  refine Met.ofW (cc := cX1_ownBody) (maxL := 2) (ret := (some .int)) (by decide) rfl ?_
  intro p e s m args below meth c s₁ B hml hv
  obtain ⟨rfl, hP, hK, hN, hZ⟩ := hv
  have hx := B.exec
  have hb := B.bytes
  have hr := B.returns
  have hts := atoms_spec (ws := wsX1_ownBody) B.pre
  have hown : s.vm.findClass RX1 = some m.cls := findClass_of_methodNamed B.named
  have hlocks := B.notSynchronized
  have hl := lv_entry ([.int 3, .int 1]) (n := 2) (Nat.le_of_ble_eq_true rfl)
  rw [lg_entry_eq]
  generalize (lg_sl ([.int 3, .int 1]) ++ List.replicate (2 - (lg_sl ([.int 3, .int 1])).length) Slot.unset).toArray = ls at hl ⊢
  replace hl : lv_has ls 2 [(0, .int 3), (1, .int 1)] := hl
  refine lv_iload_n hx hb dX1_ownBody_0 rfl (lv_at hl 0 rfl) ?_
  refine lv_tableIn (tgt := 68) hx hb dX1_ownBody_1 (by decide) (by decide) rfl (by decide) ?_
  refine lv_iload_n hx hb dX1_ownBody_68 rfl (lv_at hl 1 rfl) ?_
  refine lv_iconst (v := 1) hx hb dX1_ownBody_69 (by decide) ?_
  refine lv_icmp_ne (tgt := 78) hx hb dX1_ownBody_70 (by decide) (fun c_1 => ?_) (fun c_1 => ?_)
  · exact absurd c_1 (by decide)
  · refine lv_bipush (v := 40) hx hb dX1_ownBody_73 (by decide) ?_
    refine lv_goto (tgt := 79) hx hb dX1_ownBody_75 (by decide) ?_
    exact W.iret (v := 40) hx hb hr (fun t ht hW => ⟨40, rfl, rfl, ht⟩) (fun q hq => by cases hq) dX1_ownBody_79
set_option maxHeartbeats 4000000 in
set_option maxRecDepth 100000 in
theorem c_M_own_3_2 (l : Launch) (D : va_G) (cI cJ cZ cP cS : ClassId) (po : zPool)   : Met l yX1_ownBody wsX1_ownBody ({ frames := 0, cells := 0, slots := 0, locals := 0 }) (va_Pc [.int 3, .int 2] (zR D (zKT cI cJ cZ cP cS) po [])) (vp_Si (fun r => r = (-1))) 0 0 (fun _ => False) := by
  refine Met.ofW (cc := cX1_ownBody) (maxL := 2) (ret := (some .int)) (by decide) rfl ?_
  intro p e s m args below meth c s₁ B hml hv
  obtain ⟨rfl, hP, hK, hN, hZ⟩ := hv
  have hx := B.exec
  have hb := B.bytes
  have hr := B.returns
  have hts := atoms_spec (ws := wsX1_ownBody) B.pre
  have hown : s.vm.findClass RX1 = some m.cls := findClass_of_methodNamed B.named
  have hlocks := B.notSynchronized
  have hl := lv_entry ([.int 3, .int 2]) (n := 2) (Nat.le_of_ble_eq_true rfl)
  rw [lg_entry_eq]
  generalize (lg_sl ([.int 3, .int 2]) ++ List.replicate (2 - (lg_sl ([.int 3, .int 2])).length) Slot.unset).toArray = ls at hl ⊢
  replace hl : lv_has ls 2 [(0, .int 3), (1, .int 2)] := hl
  refine lv_iload_n hx hb dX1_ownBody_0 rfl (lv_at hl 0 rfl) ?_
  refine lv_tableIn (tgt := 68) hx hb dX1_ownBody_1 (by decide) (by decide) rfl (by decide) ?_
  refine lv_iload_n hx hb dX1_ownBody_68 rfl (lv_at hl 1 rfl) ?_
  refine lv_iconst (v := 1) hx hb dX1_ownBody_69 (by decide) ?_
  refine lv_icmp_ne (tgt := 78) hx hb dX1_ownBody_70 (by decide) (fun c_1 => ?_) (fun c_1 => ?_)
  · refine lv_iconst (v := (-1)) hx hb dX1_ownBody_78 (by decide) ?_
    exact W.iret (v := (-1)) hx hb hr (fun t ht hW => ⟨(-1), rfl, rfl, ht⟩) (fun q hq => by cases hq) dX1_ownBody_79
  · exact absurd c_1 (by decide)
set_option maxHeartbeats 4000000 in
set_option maxRecDepth 100000 in
theorem c_M_own_4_0 (l : Launch) (D : va_G) (cI cJ cZ cP cS : ClassId) (po : zPool)   : Met l yX1_ownBody wsX1_ownBody ({ frames := 0, cells := 0, slots := 0, locals := 0 }) (va_Pc [.int 4, .int 0] (zR D (zKT cI cJ cZ cP cS) po [])) (vp_Si (fun r => r = 51)) 0 0 (fun _ => False) := by
  refine Met.ofW (cc := cX1_ownBody) (maxL := 2) (ret := (some .int)) (by decide) rfl ?_
  intro p e s m args below meth c s₁ B hml hv
  obtain ⟨rfl, hP, hK, hN, hZ⟩ := hv
  have hx := B.exec
  have hb := B.bytes
  have hr := B.returns
  have hts := atoms_spec (ws := wsX1_ownBody) B.pre
  have hown : s.vm.findClass RX1 = some m.cls := findClass_of_methodNamed B.named
  have hlocks := B.notSynchronized
  have hl := lv_entry ([.int 4, .int 0]) (n := 2) (Nat.le_of_ble_eq_true rfl)
  rw [lg_entry_eq]
  generalize (lg_sl ([.int 4, .int 0]) ++ List.replicate (2 - (lg_sl ([.int 4, .int 0])).length) Slot.unset).toArray = ls at hl ⊢
  replace hl : lv_has ls 2 [(0, .int 4), (1, .int 0)] := hl
  refine lv_iload_n hx hb dX1_ownBody_0 rfl (lv_at hl 0 rfl) ?_
  refine lv_tableIn (tgt := 80) hx hb dX1_ownBody_1 (by decide) (by decide) rfl (by decide) ?_
  refine lv_iload_n hx hb dX1_ownBody_80 rfl (lv_at hl 1 rfl) ?_
  refine lv_iconst (v := 2) hx hb dX1_ownBody_81 (by decide) ?_
  refine lv_icmp_ne (tgt := 90) hx hb dX1_ownBody_82 (by decide) (fun c_1 => ?_) (fun c_1 => ?_)
  · refine lv_iload_n hx hb dX1_ownBody_90 rfl (lv_at hl 1 rfl) ?_
    refine lv_if_ne (tgt := 99) hx hb dX1_ownBody_91 (by decide) (fun c_2 => ?_) (fun c_2 => ?_)
    · exact absurd c_2 (by decide)
    · refine lv_bipush (v := 51) hx hb dX1_ownBody_94 (by decide) ?_
      refine lv_goto (tgt := 100) hx hb dX1_ownBody_96 (by decide) ?_
      exact W.iret (v := 51) hx hb hr (fun t ht hW => ⟨51, rfl, rfl, ht⟩) (fun q hq => by cases hq) dX1_ownBody_100
  · exact absurd c_1 (by decide)
set_option maxHeartbeats 4000000 in
set_option maxRecDepth 100000 in
theorem c_M_own_4_1 (l : Launch) (D : va_G) (cI cJ cZ cP cS : ClassId) (po : zPool)   : Met l yX1_ownBody wsX1_ownBody ({ frames := 0, cells := 0, slots := 0, locals := 0 }) (va_Pc [.int 4, .int 1] (zR D (zKT cI cJ cZ cP cS) po [])) (vp_Si (fun r => r = (-1))) 0 0 (fun _ => False) := by
  refine Met.ofW (cc := cX1_ownBody) (maxL := 2) (ret := (some .int)) (by decide) rfl ?_
  intro p e s m args below meth c s₁ B hml hv
  obtain ⟨rfl, hP, hK, hN, hZ⟩ := hv
  have hx := B.exec
  have hb := B.bytes
  have hr := B.returns
  have hts := atoms_spec (ws := wsX1_ownBody) B.pre
  have hown : s.vm.findClass RX1 = some m.cls := findClass_of_methodNamed B.named
  have hlocks := B.notSynchronized
  have hl := lv_entry ([.int 4, .int 1]) (n := 2) (Nat.le_of_ble_eq_true rfl)
  rw [lg_entry_eq]
  generalize (lg_sl ([.int 4, .int 1]) ++ List.replicate (2 - (lg_sl ([.int 4, .int 1])).length) Slot.unset).toArray = ls at hl ⊢
  replace hl : lv_has ls 2 [(0, .int 4), (1, .int 1)] := hl
  refine lv_iload_n hx hb dX1_ownBody_0 rfl (lv_at hl 0 rfl) ?_
  refine lv_tableIn (tgt := 80) hx hb dX1_ownBody_1 (by decide) (by decide) rfl (by decide) ?_
  refine lv_iload_n hx hb dX1_ownBody_80 rfl (lv_at hl 1 rfl) ?_
  refine lv_iconst (v := 2) hx hb dX1_ownBody_81 (by decide) ?_
  refine lv_icmp_ne (tgt := 90) hx hb dX1_ownBody_82 (by decide) (fun c_1 => ?_) (fun c_1 => ?_)
  · refine lv_iload_n hx hb dX1_ownBody_90 rfl (lv_at hl 1 rfl) ?_
    refine lv_if_ne (tgt := 99) hx hb dX1_ownBody_91 (by decide) (fun c_2 => ?_) (fun c_2 => ?_)
    · refine lv_iconst (v := (-1)) hx hb dX1_ownBody_99 (by decide) ?_
      exact W.iret (v := (-1)) hx hb hr (fun t ht hW => ⟨(-1), rfl, rfl, ht⟩) (fun q hq => by cases hq) dX1_ownBody_100
    · exact absurd c_2 (by decide)
  · exact absurd c_1 (by decide)
set_option maxHeartbeats 4000000 in
set_option maxRecDepth 100000 in
theorem c_M_own_4_2 (l : Launch) (D : va_G) (cI cJ cZ cP cS : ClassId) (po : zPool)   : Met l yX1_ownBody wsX1_ownBody ({ frames := 0, cells := 0, slots := 0, locals := 0 }) (va_Pc [.int 4, .int 2] (zR D (zKT cI cJ cZ cP cS) po [])) (vp_Si (fun r => r = 50)) 0 0 (fun _ => False) := by
  refine Met.ofW (cc := cX1_ownBody) (maxL := 2) (ret := (some .int)) (by decide) rfl ?_
  intro p e s m args below meth c s₁ B hml hv
  obtain ⟨rfl, hP, hK, hN, hZ⟩ := hv
  have hx := B.exec
  have hb := B.bytes
  have hr := B.returns
  have hts := atoms_spec (ws := wsX1_ownBody) B.pre
  have hown : s.vm.findClass RX1 = some m.cls := findClass_of_methodNamed B.named
  have hlocks := B.notSynchronized
  have hl := lv_entry ([.int 4, .int 2]) (n := 2) (Nat.le_of_ble_eq_true rfl)
  rw [lg_entry_eq]
  generalize (lg_sl ([.int 4, .int 2]) ++ List.replicate (2 - (lg_sl ([.int 4, .int 2])).length) Slot.unset).toArray = ls at hl ⊢
  replace hl : lv_has ls 2 [(0, .int 4), (1, .int 2)] := hl
  refine lv_iload_n hx hb dX1_ownBody_0 rfl (lv_at hl 0 rfl) ?_
  refine lv_tableIn (tgt := 80) hx hb dX1_ownBody_1 (by decide) (by decide) rfl (by decide) ?_
  refine lv_iload_n hx hb dX1_ownBody_80 rfl (lv_at hl 1 rfl) ?_
  refine lv_iconst (v := 2) hx hb dX1_ownBody_81 (by decide) ?_
  refine lv_icmp_ne (tgt := 90) hx hb dX1_ownBody_82 (by decide) (fun c_1 => ?_) (fun c_1 => ?_)
  · exact absurd c_1 (by decide)
  · refine lv_bipush (v := 50) hx hb dX1_ownBody_85 (by decide) ?_
    refine lv_goto (tgt := 100) hx hb dX1_ownBody_87 (by decide) ?_
    exact W.iret (v := 50) hx hb hr (fun t ht hW => ⟨50, rfl, rfl, ht⟩) (fun q hq => by cases hq) dX1_ownBody_100
set_option maxHeartbeats 4000000 in
set_option maxRecDepth 100000 in
theorem c_M_own_5_0 (l : Launch) (D : va_G) (cI cJ cZ cP cS : ClassId) (po : zPool)   : Met l yX1_ownBody wsX1_ownBody ({ frames := 0, cells := 0, slots := 0, locals := 0 }) (va_Pc [.int 5, .int 0] (zR D (zKT cI cJ cZ cP cS) po [])) (vp_Si (fun r => r = (-1))) 0 0 (fun _ => False) := by
  refine Met.ofW (cc := cX1_ownBody) (maxL := 2) (ret := (some .int)) (by decide) rfl ?_
  intro p e s m args below meth c s₁ B hml hv
  obtain ⟨rfl, hP, hK, hN, hZ⟩ := hv
  have hx := B.exec
  have hb := B.bytes
  have hr := B.returns
  have hts := atoms_spec (ws := wsX1_ownBody) B.pre
  have hown : s.vm.findClass RX1 = some m.cls := findClass_of_methodNamed B.named
  have hlocks := B.notSynchronized
  have hl := lv_entry ([.int 5, .int 0]) (n := 2) (Nat.le_of_ble_eq_true rfl)
  rw [lg_entry_eq]
  generalize (lg_sl ([.int 5, .int 0]) ++ List.replicate (2 - (lg_sl ([.int 5, .int 0])).length) Slot.unset).toArray = ls at hl ⊢
  replace hl : lv_has ls 2 [(0, .int 5), (1, .int 0)] := hl
  refine lv_iload_n hx hb dX1_ownBody_0 rfl (lv_at hl 0 rfl) ?_
  refine lv_tableIn (tgt := 101) hx hb dX1_ownBody_1 (by decide) (by decide) rfl (by decide) ?_
  refine lv_iload_n hx hb dX1_ownBody_101 rfl (lv_at hl 1 rfl) ?_
  refine lv_iconst (v := 2) hx hb dX1_ownBody_102 (by decide) ?_
  refine lv_icmp_ne (tgt := 111) hx hb dX1_ownBody_103 (by decide) (fun c_1 => ?_) (fun c_1 => ?_)
  · refine lv_iconst (v := (-1)) hx hb dX1_ownBody_111 (by decide) ?_
    exact W.iret (v := (-1)) hx hb hr (fun t ht hW => ⟨(-1), rfl, rfl, ht⟩) (fun q hq => by cases hq) dX1_ownBody_112
  · exact absurd c_1 (by decide)
set_option maxHeartbeats 4000000 in
set_option maxRecDepth 100000 in
theorem c_M_own_5_1 (l : Launch) (D : va_G) (cI cJ cZ cP cS : ClassId) (po : zPool)   : Met l yX1_ownBody wsX1_ownBody ({ frames := 0, cells := 0, slots := 0, locals := 0 }) (va_Pc [.int 5, .int 1] (zR D (zKT cI cJ cZ cP cS) po [])) (vp_Si (fun r => r = (-1))) 0 0 (fun _ => False) := by
  refine Met.ofW (cc := cX1_ownBody) (maxL := 2) (ret := (some .int)) (by decide) rfl ?_
  intro p e s m args below meth c s₁ B hml hv
  obtain ⟨rfl, hP, hK, hN, hZ⟩ := hv
  have hx := B.exec
  have hb := B.bytes
  have hr := B.returns
  have hts := atoms_spec (ws := wsX1_ownBody) B.pre
  have hown : s.vm.findClass RX1 = some m.cls := findClass_of_methodNamed B.named
  have hlocks := B.notSynchronized
  have hl := lv_entry ([.int 5, .int 1]) (n := 2) (Nat.le_of_ble_eq_true rfl)
  rw [lg_entry_eq]
  generalize (lg_sl ([.int 5, .int 1]) ++ List.replicate (2 - (lg_sl ([.int 5, .int 1])).length) Slot.unset).toArray = ls at hl ⊢
  replace hl : lv_has ls 2 [(0, .int 5), (1, .int 1)] := hl
  refine lv_iload_n hx hb dX1_ownBody_0 rfl (lv_at hl 0 rfl) ?_
  refine lv_tableIn (tgt := 101) hx hb dX1_ownBody_1 (by decide) (by decide) rfl (by decide) ?_
  refine lv_iload_n hx hb dX1_ownBody_101 rfl (lv_at hl 1 rfl) ?_
  refine lv_iconst (v := 2) hx hb dX1_ownBody_102 (by decide) ?_
  refine lv_icmp_ne (tgt := 111) hx hb dX1_ownBody_103 (by decide) (fun c_1 => ?_) (fun c_1 => ?_)
  · refine lv_iconst (v := (-1)) hx hb dX1_ownBody_111 (by decide) ?_
    exact W.iret (v := (-1)) hx hb hr (fun t ht hW => ⟨(-1), rfl, rfl, ht⟩) (fun q hq => by cases hq) dX1_ownBody_112
  · exact absurd c_1 (by decide)
set_option maxHeartbeats 4000000 in
set_option maxRecDepth 100000 in
theorem c_M_own_5_2 (l : Launch) (D : va_G) (cI cJ cZ cP cS : ClassId) (po : zPool)   : Met l yX1_ownBody wsX1_ownBody ({ frames := 0, cells := 0, slots := 0, locals := 0 }) (va_Pc [.int 5, .int 2] (zR D (zKT cI cJ cZ cP cS) po [])) (vp_Si (fun r => r = 60)) 0 0 (fun _ => False) := by
  refine Met.ofW (cc := cX1_ownBody) (maxL := 2) (ret := (some .int)) (by decide) rfl ?_
  intro p e s m args below meth c s₁ B hml hv
  obtain ⟨rfl, hP, hK, hN, hZ⟩ := hv
  have hx := B.exec
  have hb := B.bytes
  have hr := B.returns
  have hts := atoms_spec (ws := wsX1_ownBody) B.pre
  have hown : s.vm.findClass RX1 = some m.cls := findClass_of_methodNamed B.named
  have hlocks := B.notSynchronized
  have hl := lv_entry ([.int 5, .int 2]) (n := 2) (Nat.le_of_ble_eq_true rfl)
  rw [lg_entry_eq]
  generalize (lg_sl ([.int 5, .int 2]) ++ List.replicate (2 - (lg_sl ([.int 5, .int 2])).length) Slot.unset).toArray = ls at hl ⊢
  replace hl : lv_has ls 2 [(0, .int 5), (1, .int 2)] := hl
  refine lv_iload_n hx hb dX1_ownBody_0 rfl (lv_at hl 0 rfl) ?_
  refine lv_tableIn (tgt := 101) hx hb dX1_ownBody_1 (by decide) (by decide) rfl (by decide) ?_
  refine lv_iload_n hx hb dX1_ownBody_101 rfl (lv_at hl 1 rfl) ?_
  refine lv_iconst (v := 2) hx hb dX1_ownBody_102 (by decide) ?_
  refine lv_icmp_ne (tgt := 111) hx hb dX1_ownBody_103 (by decide) (fun c_1 => ?_) (fun c_1 => ?_)
  · exact absurd c_1 (by decide)
  · refine lv_bipush (v := 60) hx hb dX1_ownBody_106 (by decide) ?_
    refine lv_goto (tgt := 112) hx hb dX1_ownBody_108 (by decide) ?_
    exact W.iret (v := 60) hx hb hr (fun t ht hW => ⟨60, rfl, rfl, ht⟩) (fun q hq => by cases hq) dX1_ownBody_112
set_option maxHeartbeats 4000000 in
set_option maxRecDepth 100000 in
theorem c_M_own_6_0 (l : Launch) (D : va_G) (cI cJ cZ cP cS : ClassId) (po : zPool)   : Met l yX1_ownBody wsX1_ownBody ({ frames := 0, cells := 0, slots := 0, locals := 0 }) (va_Pc [.int 6, .int 0] (zR D (zKT cI cJ cZ cP cS) po [])) (vp_Si (fun r => r = 70)) 0 0 (fun _ => False) := by
  refine Met.ofW (cc := cX1_ownBody) (maxL := 2) (ret := (some .int)) (by decide) rfl ?_
  intro p e s m args below meth c s₁ B hml hv
  obtain ⟨rfl, hP, hK, hN, hZ⟩ := hv
  have hx := B.exec
  have hb := B.bytes
  have hr := B.returns
  have hts := atoms_spec (ws := wsX1_ownBody) B.pre
  have hown : s.vm.findClass RX1 = some m.cls := findClass_of_methodNamed B.named
  have hlocks := B.notSynchronized
  have hl := lv_entry ([.int 6, .int 0]) (n := 2) (Nat.le_of_ble_eq_true rfl)
  rw [lg_entry_eq]
  generalize (lg_sl ([.int 6, .int 0]) ++ List.replicate (2 - (lg_sl ([.int 6, .int 0])).length) Slot.unset).toArray = ls at hl ⊢
  replace hl : lv_has ls 2 [(0, .int 6), (1, .int 0)] := hl
  refine lv_iload_n hx hb dX1_ownBody_0 rfl (lv_at hl 0 rfl) ?_
  refine lv_tableOut (tgt := 113) hx hb dX1_ownBody_1 (by decide) (by decide) ?_
  refine lv_iload_n hx hb dX1_ownBody_113 rfl (lv_at hl 1 rfl) ?_
  refine lv_if_ne (tgt := 122) hx hb dX1_ownBody_114 (by decide) (fun c_1 => ?_) (fun c_1 => ?_)
  · exact absurd c_1 (by decide)
  · refine lv_bipush (v := 70) hx hb dX1_ownBody_117 (by decide) ?_
    refine lv_goto (tgt := 133) hx hb dX1_ownBody_119 (by decide) ?_
    exact W.iret (v := 70) hx hb hr (fun t ht hW => ⟨70, rfl, rfl, ht⟩) (fun q hq => by cases hq) dX1_ownBody_133
set_option maxHeartbeats 4000000 in
set_option maxRecDepth 100000 in
theorem c_M_own_6_1 (l : Launch) (D : va_G) (cI cJ cZ cP cS : ClassId) (po : zPool)   : Met l yX1_ownBody wsX1_ownBody ({ frames := 0, cells := 0, slots := 0, locals := 0 }) (va_Pc [.int 6, .int 1] (zR D (zKT cI cJ cZ cP cS) po [])) (vp_Si (fun r => r = 71)) 0 0 (fun _ => False) := by
  refine Met.ofW (cc := cX1_ownBody) (maxL := 2) (ret := (some .int)) (by decide) rfl ?_
  intro p e s m args below meth c s₁ B hml hv
  obtain ⟨rfl, hP, hK, hN, hZ⟩ := hv
  have hx := B.exec
  have hb := B.bytes
  have hr := B.returns
  have hts := atoms_spec (ws := wsX1_ownBody) B.pre
  have hown : s.vm.findClass RX1 = some m.cls := findClass_of_methodNamed B.named
  have hlocks := B.notSynchronized
  have hl := lv_entry ([.int 6, .int 1]) (n := 2) (Nat.le_of_ble_eq_true rfl)
  rw [lg_entry_eq]
  generalize (lg_sl ([.int 6, .int 1]) ++ List.replicate (2 - (lg_sl ([.int 6, .int 1])).length) Slot.unset).toArray = ls at hl ⊢
  replace hl : lv_has ls 2 [(0, .int 6), (1, .int 1)] := hl
  refine lv_iload_n hx hb dX1_ownBody_0 rfl (lv_at hl 0 rfl) ?_
  refine lv_tableOut (tgt := 113) hx hb dX1_ownBody_1 (by decide) (by decide) ?_
  refine lv_iload_n hx hb dX1_ownBody_113 rfl (lv_at hl 1 rfl) ?_
  refine lv_if_ne (tgt := 122) hx hb dX1_ownBody_114 (by decide) (fun c_1 => ?_) (fun c_1 => ?_)
  · refine lv_iload_n hx hb dX1_ownBody_122 rfl (lv_at hl 1 rfl) ?_
    refine lv_iconst (v := 1) hx hb dX1_ownBody_123 (by decide) ?_
    refine lv_icmp_ne (tgt := 132) hx hb dX1_ownBody_124 (by decide) (fun c_2 => ?_) (fun c_2 => ?_)
    · exact absurd c_2 (by decide)
    · refine lv_bipush (v := 71) hx hb dX1_ownBody_127 (by decide) ?_
      refine lv_goto (tgt := 133) hx hb dX1_ownBody_129 (by decide) ?_
      exact W.iret (v := 71) hx hb hr (fun t ht hW => ⟨71, rfl, rfl, ht⟩) (fun q hq => by cases hq) dX1_ownBody_133
  · exact absurd c_1 (by decide)
set_option maxHeartbeats 4000000 in
set_option maxRecDepth 100000 in
theorem c_M_own_6_2 (l : Launch) (D : va_G) (cI cJ cZ cP cS : ClassId) (po : zPool)   : Met l yX1_ownBody wsX1_ownBody ({ frames := 0, cells := 0, slots := 0, locals := 0 }) (va_Pc [.int 6, .int 2] (zR D (zKT cI cJ cZ cP cS) po [])) (vp_Si (fun r => r = (-1))) 0 0 (fun _ => False) := by
  refine Met.ofW (cc := cX1_ownBody) (maxL := 2) (ret := (some .int)) (by decide) rfl ?_
  intro p e s m args below meth c s₁ B hml hv
  obtain ⟨rfl, hP, hK, hN, hZ⟩ := hv
  have hx := B.exec
  have hb := B.bytes
  have hr := B.returns
  have hts := atoms_spec (ws := wsX1_ownBody) B.pre
  have hown : s.vm.findClass RX1 = some m.cls := findClass_of_methodNamed B.named
  have hlocks := B.notSynchronized
  have hl := lv_entry ([.int 6, .int 2]) (n := 2) (Nat.le_of_ble_eq_true rfl)
  rw [lg_entry_eq]
  generalize (lg_sl ([.int 6, .int 2]) ++ List.replicate (2 - (lg_sl ([.int 6, .int 2])).length) Slot.unset).toArray = ls at hl ⊢
  replace hl : lv_has ls 2 [(0, .int 6), (1, .int 2)] := hl
  refine lv_iload_n hx hb dX1_ownBody_0 rfl (lv_at hl 0 rfl) ?_
  refine lv_tableOut (tgt := 113) hx hb dX1_ownBody_1 (by decide) (by decide) ?_
  refine lv_iload_n hx hb dX1_ownBody_113 rfl (lv_at hl 1 rfl) ?_
  refine lv_if_ne (tgt := 122) hx hb dX1_ownBody_114 (by decide) (fun c_1 => ?_) (fun c_1 => ?_)
  · refine lv_iload_n hx hb dX1_ownBody_122 rfl (lv_at hl 1 rfl) ?_
    refine lv_iconst (v := 1) hx hb dX1_ownBody_123 (by decide) ?_
    refine lv_icmp_ne (tgt := 132) hx hb dX1_ownBody_124 (by decide) (fun c_2 => ?_) (fun c_2 => ?_)
    · refine lv_iconst (v := (-1)) hx hb dX1_ownBody_132 (by decide) ?_
      exact W.iret (v := (-1)) hx hb hr (fun t ht hW => ⟨(-1), rfl, rfl, ht⟩) (fun q hq => by cases hq) dX1_ownBody_133
    · exact absurd c_2 (by decide)
  · exact absurd c_1 (by decide)
set_option maxHeartbeats 4000000 in
set_option maxRecDepth 100000 in
theorem c_M_bodyFor_0_0 (l : Launch) (D : va_G) (cI cJ cZ cP cS : ClassId) (po : zPool)   : Met l yX1_bodyFor wsX1_bodyFor ({ frames := 1, cells := 0, slots := 0, locals := 22 }) (va_Pc [.int 0, .int 0] (zR D (zKT cI cJ cZ cP cS) po [])) (vp_Si (fun r => r = 10)) 0 0 (fun _ => False) := by
  refine Met.ofW (cc := cX1_bodyFor) (maxL := 5) (ret := (some .int)) (by decide) rfl ?_
  intro p e s m args below meth c s₁ B hml hv
  obtain ⟨rfl, hP, hK, hN, hZ⟩ := hv
  have hx := B.exec
  have hb := B.bytes
  have hr := B.returns
  have hts := atoms_spec (ws := wsX1_bodyFor) B.pre
  have hown : s.vm.findClass RX1 = some m.cls := findClass_of_methodNamed B.named
  have hlocks := B.notSynchronized
  have hl := lv_entry ([.int 0, .int 0]) (n := 5) (Nat.le_of_ble_eq_true rfl)
  rw [lg_entry_eq]
  generalize (lg_sl ([.int 0, .int 0]) ++ List.replicate (5 - (lg_sl ([.int 0, .int 0])).length) Slot.unset).toArray = ls at hl ⊢
  replace hl : lv_has ls 5 [(0, .int 0), (1, .int 0)] := hl
  refine lv_iload_n hx hb dX1_bodyFor_0 rfl (lv_at hl 0 rfl) ?_
  refine lv_istore_n (lv' := [(2, .int 0), (0, .int 0), (1, .int 0)]) hx hb dX1_bodyFor_1 rfl hl (by decide) rfl (fun ls hl => ?_)
  refine lv_iconst (v := 0) hx hb dX1_bodyFor_2 (by decide) ?_
  refine lv_istore_n (lv' := [(3, .int 0), (2, .int 0), (0, .int 0), (1, .int 0)]) hx hb dX1_bodyFor_3 rfl hl (by decide) rfl (fun ls hl => ?_)
  refine lv_iload_n hx hb dX1_bodyFor_4 rfl (lv_at hl 0 rfl) ?_
  refine lv_bipush (v := 7) hx hb dX1_bodyFor_5 (by decide) ?_
  refine lv_icmp_ge (tgt := 48) hx hb dX1_bodyFor_7 (by decide) (fun c_1 => ?_) (fun c_1 => ?_)
  · exact absurd c_1 (by decide)
  · refine lv_iload_n hx hb dX1_bodyFor_10 rfl (lv_at hl 1 rfl) ?_
    refine lv_iconst (v := 0) hx hb dX1_bodyFor_11 (by decide) ?_
    refine lv_bipush (v := 6) hx hb dX1_bodyFor_12 (by decide) ?_
    have kc0 : (0 : Int32).toInt = 0 := by decide
    have kc6 : (6 : Int32).toInt = 6 := by decide
    refine zc_SN (As := [.int 0, .int 0, .int 6]) (rest := []) ⟨hx, hb, hml, hown, hts⟩ (c_within l D cI cJ cZ cP cS po (0) (0) (6) ) ⟨(va_cnB 3 hts gX1_bodyFor_X7_within_n44 rfl rfl rfl (hN.1 (RX1, 44, yX7_within) (List.mem_of_getElem? (i := 13) rfl)) (hts _ (List.mem_of_getElem? (i := 2) rfl)) dh_X7_within ⟨Nat.le_of_ble_eq_true rfl, Nat.le_of_ble_eq_true rfl⟩), (hts _ (List.mem_of_getElem? (i := 1) rfl)), trivial⟩ hK hN hZ rfl hl.1 rfl (Nat.le_of_ble_eq_true rfl) dX1_bodyFor_14 ⟨Nat.le_of_ble_eq_true rfl, Nat.le_of_ble_eq_true rfl⟩ (fun r_2 hr_2 => ?_)
    rcases hr_2 with ⟨rfl, g_3⟩ | ⟨rfl, g_4, g_5⟩ | ⟨rfl, g_6, g_7⟩
    · exfalso; omega
    · exfalso; omega
    · refine lv_if_eq (tgt := 48) hx hb dX1_bodyFor_17 (by decide) (fun c_8 => ?_) (fun c_8 => ?_)
      · exact absurd c_8 (by decide)
      · refine lv_iload_n hx hb dX1_bodyFor_20 rfl (lv_at hl 1 rfl) ?_
        refine lv_iload_n hx hb dX1_bodyFor_21 rfl (lv_at hl 3 rfl) ?_
        refine zc_S (As := [.int 0, .int 0]) (rest := []) ⟨hx, hb, hml, hown, hts⟩ (c_M_own_0_0 l D cI cJ cZ cP cS po  ) (va_cwS 2 hts gX1_bodyFor_X1_ownBody rfl rfl rfl dh_X1_ownBody ⟨Nat.le_of_ble_eq_true rfl, Nat.le_of_ble_eq_true rfl⟩) hK hN hZ rfl hl.1 rfl (Nat.le_of_ble_eq_true rfl) dX1_bodyFor_22 ⟨Nat.le_of_ble_eq_true rfl, Nat.le_of_ble_eq_true rfl⟩ (fun r_9 hr_9 => ?_)
        obtain rfl := hr_9
        refine lv_istore (lv' := [(4, .int 10), (3, .int 0), (2, .int 0), (0, .int 0), (1, .int 0)]) hx hb dX1_bodyFor_25 hl (by decide) rfl (fun ls hl => ?_)
        refine lv_iload hx hb dX1_bodyFor_27 (lv_at hl 0 rfl) ?_
        refine lv_iconst (v := (-1)) hx hb dX1_bodyFor_29 (by decide) ?_
        refine lv_icmp_eq (tgt := 36) hx hb dX1_bodyFor_30 (by decide) (fun c_10 => ?_) (fun c_10 => ?_)
        · exact absurd c_10 (by decide)
        · refine lv_iload hx hb dX1_bodyFor_33 (lv_at hl 0 rfl) ?_
          exact W.iret (v := 10) hx hb hr (fun t ht hW => ⟨10, rfl, rfl, ht⟩) (fun q hq => by cases hq) dX1_bodyFor_35
set_option maxHeartbeats 4000000 in
set_option maxRecDepth 100000 in
theorem c_M_bodyFor_0_1 (l : Launch) (D : va_G) (cI cJ cZ cP cS : ClassId) (po : zPool)   : Met l yX1_bodyFor wsX1_bodyFor ({ frames := 1, cells := 0, slots := 0, locals := 22 }) (va_Pc [.int 0, .int 1] (zR D (zKT cI cJ cZ cP cS) po [])) (vp_Si (fun r => r = 11)) 0 0 (fun _ => False) := by
  refine Met.ofW (cc := cX1_bodyFor) (maxL := 5) (ret := (some .int)) (by decide) rfl ?_
  intro p e s m args below meth c s₁ B hml hv
  obtain ⟨rfl, hP, hK, hN, hZ⟩ := hv
  have hx := B.exec
  have hb := B.bytes
  have hr := B.returns
  have hts := atoms_spec (ws := wsX1_bodyFor) B.pre
  have hown : s.vm.findClass RX1 = some m.cls := findClass_of_methodNamed B.named
  have hlocks := B.notSynchronized
  have hl := lv_entry ([.int 0, .int 1]) (n := 5) (Nat.le_of_ble_eq_true rfl)
  rw [lg_entry_eq]
  generalize (lg_sl ([.int 0, .int 1]) ++ List.replicate (5 - (lg_sl ([.int 0, .int 1])).length) Slot.unset).toArray = ls at hl ⊢
  replace hl : lv_has ls 5 [(0, .int 0), (1, .int 1)] := hl
  refine lv_iload_n hx hb dX1_bodyFor_0 rfl (lv_at hl 0 rfl) ?_
  refine lv_istore_n (lv' := [(2, .int 0), (0, .int 0), (1, .int 1)]) hx hb dX1_bodyFor_1 rfl hl (by decide) rfl (fun ls hl => ?_)
  refine lv_iconst (v := 0) hx hb dX1_bodyFor_2 (by decide) ?_
  refine lv_istore_n (lv' := [(3, .int 0), (2, .int 0), (0, .int 0), (1, .int 1)]) hx hb dX1_bodyFor_3 rfl hl (by decide) rfl (fun ls hl => ?_)
  refine lv_iload_n hx hb dX1_bodyFor_4 rfl (lv_at hl 0 rfl) ?_
  refine lv_bipush (v := 7) hx hb dX1_bodyFor_5 (by decide) ?_
  refine lv_icmp_ge (tgt := 48) hx hb dX1_bodyFor_7 (by decide) (fun c_1 => ?_) (fun c_1 => ?_)
  · exact absurd c_1 (by decide)
  · refine lv_iload_n hx hb dX1_bodyFor_10 rfl (lv_at hl 1 rfl) ?_
    refine lv_iconst (v := 0) hx hb dX1_bodyFor_11 (by decide) ?_
    refine lv_bipush (v := 6) hx hb dX1_bodyFor_12 (by decide) ?_
    have kc0 : (0 : Int32).toInt = 0 := by decide
    have kc6 : (6 : Int32).toInt = 6 := by decide
    refine zc_SN (As := [.int 0, .int 0, .int 6]) (rest := []) ⟨hx, hb, hml, hown, hts⟩ (c_within l D cI cJ cZ cP cS po (0) (0) (6) ) ⟨(va_cnB 3 hts gX1_bodyFor_X7_within_n44 rfl rfl rfl (hN.1 (RX1, 44, yX7_within) (List.mem_of_getElem? (i := 13) rfl)) (hts _ (List.mem_of_getElem? (i := 2) rfl)) dh_X7_within ⟨Nat.le_of_ble_eq_true rfl, Nat.le_of_ble_eq_true rfl⟩), (hts _ (List.mem_of_getElem? (i := 1) rfl)), trivial⟩ hK hN hZ rfl hl.1 rfl (Nat.le_of_ble_eq_true rfl) dX1_bodyFor_14 ⟨Nat.le_of_ble_eq_true rfl, Nat.le_of_ble_eq_true rfl⟩ (fun r_2 hr_2 => ?_)
    rcases hr_2 with ⟨rfl, g_3⟩ | ⟨rfl, g_4, g_5⟩ | ⟨rfl, g_6, g_7⟩
    · exfalso; omega
    · exfalso; omega
    · refine lv_if_eq (tgt := 48) hx hb dX1_bodyFor_17 (by decide) (fun c_8 => ?_) (fun c_8 => ?_)
      · exact absurd c_8 (by decide)
      · refine lv_iload_n hx hb dX1_bodyFor_20 rfl (lv_at hl 1 rfl) ?_
        refine lv_iload_n hx hb dX1_bodyFor_21 rfl (lv_at hl 3 rfl) ?_
        refine zc_S (As := [.int 0, .int 1]) (rest := []) ⟨hx, hb, hml, hown, hts⟩ (c_M_own_0_1 l D cI cJ cZ cP cS po  ) (va_cwS 2 hts gX1_bodyFor_X1_ownBody rfl rfl rfl dh_X1_ownBody ⟨Nat.le_of_ble_eq_true rfl, Nat.le_of_ble_eq_true rfl⟩) hK hN hZ rfl hl.1 rfl (Nat.le_of_ble_eq_true rfl) dX1_bodyFor_22 ⟨Nat.le_of_ble_eq_true rfl, Nat.le_of_ble_eq_true rfl⟩ (fun r_9 hr_9 => ?_)
        obtain rfl := hr_9
        refine lv_istore (lv' := [(4, .int 11), (3, .int 0), (2, .int 0), (0, .int 0), (1, .int 1)]) hx hb dX1_bodyFor_25 hl (by decide) rfl (fun ls hl => ?_)
        refine lv_iload hx hb dX1_bodyFor_27 (lv_at hl 0 rfl) ?_
        refine lv_iconst (v := (-1)) hx hb dX1_bodyFor_29 (by decide) ?_
        refine lv_icmp_eq (tgt := 36) hx hb dX1_bodyFor_30 (by decide) (fun c_10 => ?_) (fun c_10 => ?_)
        · exact absurd c_10 (by decide)
        · refine lv_iload hx hb dX1_bodyFor_33 (lv_at hl 0 rfl) ?_
          exact W.iret (v := 11) hx hb hr (fun t ht hW => ⟨11, rfl, rfl, ht⟩) (fun q hq => by cases hq) dX1_bodyFor_35
set_option maxHeartbeats 4000000 in
set_option maxRecDepth 100000 in
theorem c_M_bodyFor_0_2 (l : Launch) (D : va_G) (cI cJ cZ cP cS : ClassId) (po : zPool)   : Met l yX1_bodyFor wsX1_bodyFor ({ frames := 1, cells := 0, slots := 0, locals := 22 }) (va_Pc [.int 0, .int 2] (zR D (zKT cI cJ cZ cP cS) po [])) (vp_Si (fun r => r = 12)) 0 0 (fun _ => False) := by
  refine Met.ofW (cc := cX1_bodyFor) (maxL := 5) (ret := (some .int)) (by decide) rfl ?_
  intro p e s m args below meth c s₁ B hml hv
  obtain ⟨rfl, hP, hK, hN, hZ⟩ := hv
  have hx := B.exec
  have hb := B.bytes
  have hr := B.returns
  have hts := atoms_spec (ws := wsX1_bodyFor) B.pre
  have hown : s.vm.findClass RX1 = some m.cls := findClass_of_methodNamed B.named
  have hlocks := B.notSynchronized
  have hl := lv_entry ([.int 0, .int 2]) (n := 5) (Nat.le_of_ble_eq_true rfl)
  rw [lg_entry_eq]
  generalize (lg_sl ([.int 0, .int 2]) ++ List.replicate (5 - (lg_sl ([.int 0, .int 2])).length) Slot.unset).toArray = ls at hl ⊢
  replace hl : lv_has ls 5 [(0, .int 0), (1, .int 2)] := hl
  refine lv_iload_n hx hb dX1_bodyFor_0 rfl (lv_at hl 0 rfl) ?_
  refine lv_istore_n (lv' := [(2, .int 0), (0, .int 0), (1, .int 2)]) hx hb dX1_bodyFor_1 rfl hl (by decide) rfl (fun ls hl => ?_)
  refine lv_iconst (v := 0) hx hb dX1_bodyFor_2 (by decide) ?_
  refine lv_istore_n (lv' := [(3, .int 0), (2, .int 0), (0, .int 0), (1, .int 2)]) hx hb dX1_bodyFor_3 rfl hl (by decide) rfl (fun ls hl => ?_)
  refine lv_iload_n hx hb dX1_bodyFor_4 rfl (lv_at hl 0 rfl) ?_
  refine lv_bipush (v := 7) hx hb dX1_bodyFor_5 (by decide) ?_
  refine lv_icmp_ge (tgt := 48) hx hb dX1_bodyFor_7 (by decide) (fun c_1 => ?_) (fun c_1 => ?_)
  · exact absurd c_1 (by decide)
  · refine lv_iload_n hx hb dX1_bodyFor_10 rfl (lv_at hl 1 rfl) ?_
    refine lv_iconst (v := 0) hx hb dX1_bodyFor_11 (by decide) ?_
    refine lv_bipush (v := 6) hx hb dX1_bodyFor_12 (by decide) ?_
    have kc0 : (0 : Int32).toInt = 0 := by decide
    have kc6 : (6 : Int32).toInt = 6 := by decide
    refine zc_SN (As := [.int 0, .int 0, .int 6]) (rest := []) ⟨hx, hb, hml, hown, hts⟩ (c_within l D cI cJ cZ cP cS po (0) (0) (6) ) ⟨(va_cnB 3 hts gX1_bodyFor_X7_within_n44 rfl rfl rfl (hN.1 (RX1, 44, yX7_within) (List.mem_of_getElem? (i := 13) rfl)) (hts _ (List.mem_of_getElem? (i := 2) rfl)) dh_X7_within ⟨Nat.le_of_ble_eq_true rfl, Nat.le_of_ble_eq_true rfl⟩), (hts _ (List.mem_of_getElem? (i := 1) rfl)), trivial⟩ hK hN hZ rfl hl.1 rfl (Nat.le_of_ble_eq_true rfl) dX1_bodyFor_14 ⟨Nat.le_of_ble_eq_true rfl, Nat.le_of_ble_eq_true rfl⟩ (fun r_2 hr_2 => ?_)
    rcases hr_2 with ⟨rfl, g_3⟩ | ⟨rfl, g_4, g_5⟩ | ⟨rfl, g_6, g_7⟩
    · exfalso; omega
    · exfalso; omega
    · refine lv_if_eq (tgt := 48) hx hb dX1_bodyFor_17 (by decide) (fun c_8 => ?_) (fun c_8 => ?_)
      · exact absurd c_8 (by decide)
      · refine lv_iload_n hx hb dX1_bodyFor_20 rfl (lv_at hl 1 rfl) ?_
        refine lv_iload_n hx hb dX1_bodyFor_21 rfl (lv_at hl 3 rfl) ?_
        refine zc_S (As := [.int 0, .int 2]) (rest := []) ⟨hx, hb, hml, hown, hts⟩ (c_M_own_0_2 l D cI cJ cZ cP cS po  ) (va_cwS 2 hts gX1_bodyFor_X1_ownBody rfl rfl rfl dh_X1_ownBody ⟨Nat.le_of_ble_eq_true rfl, Nat.le_of_ble_eq_true rfl⟩) hK hN hZ rfl hl.1 rfl (Nat.le_of_ble_eq_true rfl) dX1_bodyFor_22 ⟨Nat.le_of_ble_eq_true rfl, Nat.le_of_ble_eq_true rfl⟩ (fun r_9 hr_9 => ?_)
        obtain rfl := hr_9
        refine lv_istore (lv' := [(4, .int 12), (3, .int 0), (2, .int 0), (0, .int 0), (1, .int 2)]) hx hb dX1_bodyFor_25 hl (by decide) rfl (fun ls hl => ?_)
        refine lv_iload hx hb dX1_bodyFor_27 (lv_at hl 0 rfl) ?_
        refine lv_iconst (v := (-1)) hx hb dX1_bodyFor_29 (by decide) ?_
        refine lv_icmp_eq (tgt := 36) hx hb dX1_bodyFor_30 (by decide) (fun c_10 => ?_) (fun c_10 => ?_)
        · exact absurd c_10 (by decide)
        · refine lv_iload hx hb dX1_bodyFor_33 (lv_at hl 0 rfl) ?_
          exact W.iret (v := 12) hx hb hr (fun t ht hW => ⟨12, rfl, rfl, ht⟩) (fun q hq => by cases hq) dX1_bodyFor_35
set_option maxHeartbeats 4000000 in
set_option maxRecDepth 100000 in
theorem c_M_bodyFor_1_0 (l : Launch) (D : va_G) (cI cJ cZ cP cS : ClassId) (po : zPool)   : Met l yX1_bodyFor wsX1_bodyFor ({ frames := 1, cells := 0, slots := 0, locals := 22 }) (va_Pc [.int 1, .int 0] (zR D (zKT cI cJ cZ cP cS) po [])) (vp_Si (fun r => r = 20)) 0 0 (fun _ => False) := by
  refine Met.ofW (cc := cX1_bodyFor) (maxL := 5) (ret := (some .int)) (by decide) rfl ?_
  intro p e s m args below meth c s₁ B hml hv
  obtain ⟨rfl, hP, hK, hN, hZ⟩ := hv
  have hx := B.exec
  have hb := B.bytes
  have hr := B.returns
  have hts := atoms_spec (ws := wsX1_bodyFor) B.pre
  have hown : s.vm.findClass RX1 = some m.cls := findClass_of_methodNamed B.named
  have hlocks := B.notSynchronized
  have hl := lv_entry ([.int 1, .int 0]) (n := 5) (Nat.le_of_ble_eq_true rfl)
  rw [lg_entry_eq]
  generalize (lg_sl ([.int 1, .int 0]) ++ List.replicate (5 - (lg_sl ([.int 1, .int 0])).length) Slot.unset).toArray = ls at hl ⊢
  replace hl : lv_has ls 5 [(0, .int 1), (1, .int 0)] := hl
  refine lv_iload_n hx hb dX1_bodyFor_0 rfl (lv_at hl 0 rfl) ?_
  refine lv_istore_n (lv' := [(2, .int 1), (0, .int 1), (1, .int 0)]) hx hb dX1_bodyFor_1 rfl hl (by decide) rfl (fun ls hl => ?_)
  refine lv_iconst (v := 0) hx hb dX1_bodyFor_2 (by decide) ?_
  refine lv_istore_n (lv' := [(3, .int 0), (2, .int 1), (0, .int 1), (1, .int 0)]) hx hb dX1_bodyFor_3 rfl hl (by decide) rfl (fun ls hl => ?_)
  refine lv_iload_n hx hb dX1_bodyFor_4 rfl (lv_at hl 0 rfl) ?_
  refine lv_bipush (v := 7) hx hb dX1_bodyFor_5 (by decide) ?_
  refine lv_icmp_ge (tgt := 48) hx hb dX1_bodyFor_7 (by decide) (fun c_1 => ?_) (fun c_1 => ?_)
  · exact absurd c_1 (by decide)
  · refine lv_iload_n hx hb dX1_bodyFor_10 rfl (lv_at hl 1 rfl) ?_
    refine lv_iconst (v := 0) hx hb dX1_bodyFor_11 (by decide) ?_
    refine lv_bipush (v := 6) hx hb dX1_bodyFor_12 (by decide) ?_
    have kc1 : (1 : Int32).toInt = 1 := by decide
    have kc0 : (0 : Int32).toInt = 0 := by decide
    have kc6 : (6 : Int32).toInt = 6 := by decide
    refine zc_SN (As := [.int 1, .int 0, .int 6]) (rest := []) ⟨hx, hb, hml, hown, hts⟩ (c_within l D cI cJ cZ cP cS po (1) (0) (6) ) ⟨(va_cnB 3 hts gX1_bodyFor_X7_within_n44 rfl rfl rfl (hN.1 (RX1, 44, yX7_within) (List.mem_of_getElem? (i := 13) rfl)) (hts _ (List.mem_of_getElem? (i := 2) rfl)) dh_X7_within ⟨Nat.le_of_ble_eq_true rfl, Nat.le_of_ble_eq_true rfl⟩), (hts _ (List.mem_of_getElem? (i := 1) rfl)), trivial⟩ hK hN hZ rfl hl.1 rfl (Nat.le_of_ble_eq_true rfl) dX1_bodyFor_14 ⟨Nat.le_of_ble_eq_true rfl, Nat.le_of_ble_eq_true rfl⟩ (fun r_2 hr_2 => ?_)
    rcases hr_2 with ⟨rfl, g_3⟩ | ⟨rfl, g_4, g_5⟩ | ⟨rfl, g_6, g_7⟩
    · exfalso; omega
    · exfalso; omega
    · refine lv_if_eq (tgt := 48) hx hb dX1_bodyFor_17 (by decide) (fun c_8 => ?_) (fun c_8 => ?_)
      · exact absurd c_8 (by decide)
      · refine lv_iload_n hx hb dX1_bodyFor_20 rfl (lv_at hl 1 rfl) ?_
        refine lv_iload_n hx hb dX1_bodyFor_21 rfl (lv_at hl 3 rfl) ?_
        refine zc_S (As := [.int 1, .int 0]) (rest := []) ⟨hx, hb, hml, hown, hts⟩ (c_M_own_1_0 l D cI cJ cZ cP cS po  ) (va_cwS 2 hts gX1_bodyFor_X1_ownBody rfl rfl rfl dh_X1_ownBody ⟨Nat.le_of_ble_eq_true rfl, Nat.le_of_ble_eq_true rfl⟩) hK hN hZ rfl hl.1 rfl (Nat.le_of_ble_eq_true rfl) dX1_bodyFor_22 ⟨Nat.le_of_ble_eq_true rfl, Nat.le_of_ble_eq_true rfl⟩ (fun r_9 hr_9 => ?_)
        obtain rfl := hr_9
        refine lv_istore (lv' := [(4, .int 20), (3, .int 0), (2, .int 1), (0, .int 1), (1, .int 0)]) hx hb dX1_bodyFor_25 hl (by decide) rfl (fun ls hl => ?_)
        refine lv_iload hx hb dX1_bodyFor_27 (lv_at hl 0 rfl) ?_
        refine lv_iconst (v := (-1)) hx hb dX1_bodyFor_29 (by decide) ?_
        refine lv_icmp_eq (tgt := 36) hx hb dX1_bodyFor_30 (by decide) (fun c_10 => ?_) (fun c_10 => ?_)
        · exact absurd c_10 (by decide)
        · refine lv_iload hx hb dX1_bodyFor_33 (lv_at hl 0 rfl) ?_
          exact W.iret (v := 20) hx hb hr (fun t ht hW => ⟨20, rfl, rfl, ht⟩) (fun q hq => by cases hq) dX1_bodyFor_35
set_option maxHeartbeats 4000000 in
set_option maxRecDepth 100000 in
theorem c_M_bodyFor_1_1 (l : Launch) (D : va_G) (cI cJ cZ cP cS : ClassId) (po : zPool)   : Met l yX1_bodyFor wsX1_bodyFor ({ frames := 1, cells := 0, slots := 0, locals := 22 }) (va_Pc [.int 1, .int 1] (zR D (zKT cI cJ cZ cP cS) po [])) (vp_Si (fun r => r = 11)) 0 0 (fun _ => False) := by
  refine Met.ofW (cc := cX1_bodyFor) (maxL := 5) (ret := (some .int)) (by decide) rfl ?_
  intro p e s m args below meth c s₁ B hml hv
  obtain ⟨rfl, hP, hK, hN, hZ⟩ := hv
  have hx := B.exec
  have hb := B.bytes
  have hr := B.returns
  have hts := atoms_spec (ws := wsX1_bodyFor) B.pre
  have hown : s.vm.findClass RX1 = some m.cls := findClass_of_methodNamed B.named
  have hlocks := B.notSynchronized
  have hl := lv_entry ([.int 1, .int 1]) (n := 5) (Nat.le_of_ble_eq_true rfl)
  rw [lg_entry_eq]
  generalize (lg_sl ([.int 1, .int 1]) ++ List.replicate (5 - (lg_sl ([.int 1, .int 1])).length) Slot.unset).toArray = ls at hl ⊢
  replace hl : lv_has ls 5 [(0, .int 1), (1, .int 1)] := hl
  refine lv_iload_n hx hb dX1_bodyFor_0 rfl (lv_at hl 0 rfl) ?_
  refine lv_istore_n (lv' := [(2, .int 1), (0, .int 1), (1, .int 1)]) hx hb dX1_bodyFor_1 rfl hl (by decide) rfl (fun ls hl => ?_)
  refine lv_iconst (v := 0) hx hb dX1_bodyFor_2 (by decide) ?_
  refine lv_istore_n (lv' := [(3, .int 0), (2, .int 1), (0, .int 1), (1, .int 1)]) hx hb dX1_bodyFor_3 rfl hl (by decide) rfl (fun ls hl => ?_)
  refine lv_iload_n hx hb dX1_bodyFor_4 rfl (lv_at hl 0 rfl) ?_
  refine lv_bipush (v := 7) hx hb dX1_bodyFor_5 (by decide) ?_
  refine lv_icmp_ge (tgt := 48) hx hb dX1_bodyFor_7 (by decide) (fun c_1 => ?_) (fun c_1 => ?_)
  · exact absurd c_1 (by decide)
  · refine lv_iload_n hx hb dX1_bodyFor_10 rfl (lv_at hl 1 rfl) ?_
    refine lv_iconst (v := 0) hx hb dX1_bodyFor_11 (by decide) ?_
    refine lv_bipush (v := 6) hx hb dX1_bodyFor_12 (by decide) ?_
    have kc1 : (1 : Int32).toInt = 1 := by decide
    have kc0 : (0 : Int32).toInt = 0 := by decide
    have kc6 : (6 : Int32).toInt = 6 := by decide
    refine zc_SN (As := [.int 1, .int 0, .int 6]) (rest := []) ⟨hx, hb, hml, hown, hts⟩ (c_within l D cI cJ cZ cP cS po (1) (0) (6) ) ⟨(va_cnB 3 hts gX1_bodyFor_X7_within_n44 rfl rfl rfl (hN.1 (RX1, 44, yX7_within) (List.mem_of_getElem? (i := 13) rfl)) (hts _ (List.mem_of_getElem? (i := 2) rfl)) dh_X7_within ⟨Nat.le_of_ble_eq_true rfl, Nat.le_of_ble_eq_true rfl⟩), (hts _ (List.mem_of_getElem? (i := 1) rfl)), trivial⟩ hK hN hZ rfl hl.1 rfl (Nat.le_of_ble_eq_true rfl) dX1_bodyFor_14 ⟨Nat.le_of_ble_eq_true rfl, Nat.le_of_ble_eq_true rfl⟩ (fun r_2 hr_2 => ?_)
    rcases hr_2 with ⟨rfl, g_3⟩ | ⟨rfl, g_4, g_5⟩ | ⟨rfl, g_6, g_7⟩
    · exfalso; omega
    · exfalso; omega
    · refine lv_if_eq (tgt := 48) hx hb dX1_bodyFor_17 (by decide) (fun c_8 => ?_) (fun c_8 => ?_)
      · exact absurd c_8 (by decide)
      · refine lv_iload_n hx hb dX1_bodyFor_20 rfl (lv_at hl 1 rfl) ?_
        refine lv_iload_n hx hb dX1_bodyFor_21 rfl (lv_at hl 3 rfl) ?_
        refine zc_S (As := [.int 1, .int 1]) (rest := []) ⟨hx, hb, hml, hown, hts⟩ (c_M_own_1_1 l D cI cJ cZ cP cS po  ) (va_cwS 2 hts gX1_bodyFor_X1_ownBody rfl rfl rfl dh_X1_ownBody ⟨Nat.le_of_ble_eq_true rfl, Nat.le_of_ble_eq_true rfl⟩) hK hN hZ rfl hl.1 rfl (Nat.le_of_ble_eq_true rfl) dX1_bodyFor_22 ⟨Nat.le_of_ble_eq_true rfl, Nat.le_of_ble_eq_true rfl⟩ (fun r_9 hr_9 => ?_)
        obtain rfl := hr_9
        refine lv_istore (lv' := [(4, .int (-1)), (3, .int 0), (2, .int 1), (0, .int 1), (1, .int 1)]) hx hb dX1_bodyFor_25 hl (by decide) rfl (fun ls hl => ?_)
        refine lv_iload hx hb dX1_bodyFor_27 (lv_at hl 0 rfl) ?_
        refine lv_iconst (v := (-1)) hx hb dX1_bodyFor_29 (by decide) ?_
        refine lv_icmp_eq (tgt := 36) hx hb dX1_bodyFor_30 (by decide) (fun c_10 => ?_) (fun c_10 => ?_)
        · obtain ⟨t_11, zt_11, yt_11⟩ := hZ.1.2
          refine va_getsN hx hb zt_11 va_S.rf hown (va_Nw.use rfl (hN.2.1 (RX1, 58) (List.mem_of_getElem? (i := 1) rfl))) (fun _ h9 => h9) dX1_bodyFor_36 ?_
          refine lv_iload_n hx hb dX1_bodyFor_39 rfl (lv_at hl 2 rfl) ?_
          refine va_ti hx hb yt_11 va_S.rf (zf_in (by decide) (by decide)) (v := .int 0) (by decide) dX1_bodyFor_40 ?_
          refine lv_istore_n (lv' := [(2, .int 0), (4, .int (-1)), (3, .int 0), (0, .int 1), (1, .int 1)]) hx hb dX1_bodyFor_41 rfl hl (by decide) rfl (fun ls hl => ?_)
          refine lv_iinc (v := 1) (lv' := [(3, .int 1), (2, .int 0), (4, .int (-1)), (0, .int 1), (1, .int 1)]) hx hb dX1_bodyFor_42 hl (k := 2) rfl (by decide) (by decide) rfl (fun ls hl => ?_)
          refine lv_goto (tgt := 4) hx hb dX1_bodyFor_45 (by decide) ?_
          refine lv_iload_n hx hb dX1_bodyFor_4 rfl (lv_at hl 0 rfl) ?_
          refine lv_bipush (v := 7) hx hb dX1_bodyFor_5 (by decide) ?_
          refine lv_icmp_ge (tgt := 48) hx hb dX1_bodyFor_7 (by decide) (fun c_12 => ?_) (fun c_12 => ?_)
          · exact absurd c_12 (by decide)
          · refine lv_iload_n hx hb dX1_bodyFor_10 rfl (lv_at hl 1 rfl) ?_
            refine lv_iconst (v := 0) hx hb dX1_bodyFor_11 (by decide) ?_
            refine lv_bipush (v := 6) hx hb dX1_bodyFor_12 (by decide) ?_
            refine zc_SN (As := [.int 0, .int 0, .int 6]) (rest := []) ⟨hx, hb, hml, hown, hts⟩ (c_within l D cI cJ cZ cP cS po (0) (0) (6) ) ⟨(va_cnB 3 hts gX1_bodyFor_X7_within_n44 rfl rfl rfl (hN.1 (RX1, 44, yX7_within) (List.mem_of_getElem? (i := 13) rfl)) (hts _ (List.mem_of_getElem? (i := 2) rfl)) dh_X7_within ⟨Nat.le_of_ble_eq_true rfl, Nat.le_of_ble_eq_true rfl⟩), (hts _ (List.mem_of_getElem? (i := 1) rfl)), trivial⟩ hK hN hZ rfl hl.1 rfl (Nat.le_of_ble_eq_true rfl) dX1_bodyFor_14 ⟨Nat.le_of_ble_eq_true rfl, Nat.le_of_ble_eq_true rfl⟩ (fun r_13 hr_13 => ?_)
            rcases hr_13 with ⟨rfl, g_14⟩ | ⟨rfl, g_15, g_16⟩ | ⟨rfl, g_17, g_18⟩
            · exfalso; omega
            · exfalso; omega
            · refine lv_if_eq (tgt := 48) hx hb dX1_bodyFor_17 (by decide) (fun c_19 => ?_) (fun c_19 => ?_)
              · exact absurd c_19 (by decide)
              · refine lv_iload_n hx hb dX1_bodyFor_20 rfl (lv_at hl 1 rfl) ?_
                refine lv_iload_n hx hb dX1_bodyFor_21 rfl (lv_at hl 4 rfl) ?_
                refine zc_S (As := [.int 0, .int 1]) (rest := []) ⟨hx, hb, hml, hown, hts⟩ (c_M_own_0_1 l D cI cJ cZ cP cS po  ) (va_cwS 2 hts gX1_bodyFor_X1_ownBody rfl rfl rfl dh_X1_ownBody ⟨Nat.le_of_ble_eq_true rfl, Nat.le_of_ble_eq_true rfl⟩) hK hN hZ rfl hl.1 rfl (Nat.le_of_ble_eq_true rfl) dX1_bodyFor_22 ⟨Nat.le_of_ble_eq_true rfl, Nat.le_of_ble_eq_true rfl⟩ (fun r_20 hr_20 => ?_)
                obtain rfl := hr_20
                refine lv_istore (lv' := [(4, .int 11), (3, .int 1), (2, .int 0), (0, .int 1), (1, .int 1)]) hx hb dX1_bodyFor_25 hl (by decide) rfl (fun ls hl => ?_)
                refine lv_iload hx hb dX1_bodyFor_27 (lv_at hl 0 rfl) ?_
                refine lv_iconst (v := (-1)) hx hb dX1_bodyFor_29 (by decide) ?_
                refine lv_icmp_eq (tgt := 36) hx hb dX1_bodyFor_30 (by decide) (fun c_21 => ?_) (fun c_21 => ?_)
                · exact absurd c_21 (by decide)
                · refine lv_iload hx hb dX1_bodyFor_33 (lv_at hl 0 rfl) ?_
                  exact W.iret (v := 11) hx hb hr (fun t ht hW => ⟨11, rfl, rfl, ht⟩) (fun q hq => by cases hq) dX1_bodyFor_35
        · exact absurd c_10 (by decide)
set_option maxHeartbeats 4000000 in
set_option maxRecDepth 100000 in
theorem c_M_bodyFor_1_2 (l : Launch) (D : va_G) (cI cJ cZ cP cS : ClassId) (po : zPool)   : Met l yX1_bodyFor wsX1_bodyFor ({ frames := 1, cells := 0, slots := 0, locals := 22 }) (va_Pc [.int 1, .int 2] (zR D (zKT cI cJ cZ cP cS) po [])) (vp_Si (fun r => r = 12)) 0 0 (fun _ => False) := by
  refine Met.ofW (cc := cX1_bodyFor) (maxL := 5) (ret := (some .int)) (by decide) rfl ?_
  intro p e s m args below meth c s₁ B hml hv
  obtain ⟨rfl, hP, hK, hN, hZ⟩ := hv
  have hx := B.exec
  have hb := B.bytes
  have hr := B.returns
  have hts := atoms_spec (ws := wsX1_bodyFor) B.pre
  have hown : s.vm.findClass RX1 = some m.cls := findClass_of_methodNamed B.named
  have hlocks := B.notSynchronized
  have hl := lv_entry ([.int 1, .int 2]) (n := 5) (Nat.le_of_ble_eq_true rfl)
  rw [lg_entry_eq]
  generalize (lg_sl ([.int 1, .int 2]) ++ List.replicate (5 - (lg_sl ([.int 1, .int 2])).length) Slot.unset).toArray = ls at hl ⊢
  replace hl : lv_has ls 5 [(0, .int 1), (1, .int 2)] := hl
  refine lv_iload_n hx hb dX1_bodyFor_0 rfl (lv_at hl 0 rfl) ?_
  refine lv_istore_n (lv' := [(2, .int 1), (0, .int 1), (1, .int 2)]) hx hb dX1_bodyFor_1 rfl hl (by decide) rfl (fun ls hl => ?_)
  refine lv_iconst (v := 0) hx hb dX1_bodyFor_2 (by decide) ?_
  refine lv_istore_n (lv' := [(3, .int 0), (2, .int 1), (0, .int 1), (1, .int 2)]) hx hb dX1_bodyFor_3 rfl hl (by decide) rfl (fun ls hl => ?_)
  refine lv_iload_n hx hb dX1_bodyFor_4 rfl (lv_at hl 0 rfl) ?_
  refine lv_bipush (v := 7) hx hb dX1_bodyFor_5 (by decide) ?_
  refine lv_icmp_ge (tgt := 48) hx hb dX1_bodyFor_7 (by decide) (fun c_1 => ?_) (fun c_1 => ?_)
  · exact absurd c_1 (by decide)
  · refine lv_iload_n hx hb dX1_bodyFor_10 rfl (lv_at hl 1 rfl) ?_
    refine lv_iconst (v := 0) hx hb dX1_bodyFor_11 (by decide) ?_
    refine lv_bipush (v := 6) hx hb dX1_bodyFor_12 (by decide) ?_
    have kc1 : (1 : Int32).toInt = 1 := by decide
    have kc0 : (0 : Int32).toInt = 0 := by decide
    have kc6 : (6 : Int32).toInt = 6 := by decide
    refine zc_SN (As := [.int 1, .int 0, .int 6]) (rest := []) ⟨hx, hb, hml, hown, hts⟩ (c_within l D cI cJ cZ cP cS po (1) (0) (6) ) ⟨(va_cnB 3 hts gX1_bodyFor_X7_within_n44 rfl rfl rfl (hN.1 (RX1, 44, yX7_within) (List.mem_of_getElem? (i := 13) rfl)) (hts _ (List.mem_of_getElem? (i := 2) rfl)) dh_X7_within ⟨Nat.le_of_ble_eq_true rfl, Nat.le_of_ble_eq_true rfl⟩), (hts _ (List.mem_of_getElem? (i := 1) rfl)), trivial⟩ hK hN hZ rfl hl.1 rfl (Nat.le_of_ble_eq_true rfl) dX1_bodyFor_14 ⟨Nat.le_of_ble_eq_true rfl, Nat.le_of_ble_eq_true rfl⟩ (fun r_2 hr_2 => ?_)
    rcases hr_2 with ⟨rfl, g_3⟩ | ⟨rfl, g_4, g_5⟩ | ⟨rfl, g_6, g_7⟩
    · exfalso; omega
    · exfalso; omega
    · refine lv_if_eq (tgt := 48) hx hb dX1_bodyFor_17 (by decide) (fun c_8 => ?_) (fun c_8 => ?_)
      · exact absurd c_8 (by decide)
      · refine lv_iload_n hx hb dX1_bodyFor_20 rfl (lv_at hl 1 rfl) ?_
        refine lv_iload_n hx hb dX1_bodyFor_21 rfl (lv_at hl 3 rfl) ?_
        refine zc_S (As := [.int 1, .int 2]) (rest := []) ⟨hx, hb, hml, hown, hts⟩ (c_M_own_1_2 l D cI cJ cZ cP cS po  ) (va_cwS 2 hts gX1_bodyFor_X1_ownBody rfl rfl rfl dh_X1_ownBody ⟨Nat.le_of_ble_eq_true rfl, Nat.le_of_ble_eq_true rfl⟩) hK hN hZ rfl hl.1 rfl (Nat.le_of_ble_eq_true rfl) dX1_bodyFor_22 ⟨Nat.le_of_ble_eq_true rfl, Nat.le_of_ble_eq_true rfl⟩ (fun r_9 hr_9 => ?_)
        obtain rfl := hr_9
        refine lv_istore (lv' := [(4, .int (-1)), (3, .int 0), (2, .int 1), (0, .int 1), (1, .int 2)]) hx hb dX1_bodyFor_25 hl (by decide) rfl (fun ls hl => ?_)
        refine lv_iload hx hb dX1_bodyFor_27 (lv_at hl 0 rfl) ?_
        refine lv_iconst (v := (-1)) hx hb dX1_bodyFor_29 (by decide) ?_
        refine lv_icmp_eq (tgt := 36) hx hb dX1_bodyFor_30 (by decide) (fun c_10 => ?_) (fun c_10 => ?_)
        · obtain ⟨t_11, zt_11, yt_11⟩ := hZ.1.2
          refine va_getsN hx hb zt_11 va_S.rf hown (va_Nw.use rfl (hN.2.1 (RX1, 58) (List.mem_of_getElem? (i := 1) rfl))) (fun _ h9 => h9) dX1_bodyFor_36 ?_
          refine lv_iload_n hx hb dX1_bodyFor_39 rfl (lv_at hl 2 rfl) ?_
          refine va_ti hx hb yt_11 va_S.rf (zf_in (by decide) (by decide)) (v := .int 0) (by decide) dX1_bodyFor_40 ?_
          refine lv_istore_n (lv' := [(2, .int 0), (4, .int (-1)), (3, .int 0), (0, .int 1), (1, .int 2)]) hx hb dX1_bodyFor_41 rfl hl (by decide) rfl (fun ls hl => ?_)
          refine lv_iinc (v := 1) (lv' := [(3, .int 1), (2, .int 0), (4, .int (-1)), (0, .int 1), (1, .int 2)]) hx hb dX1_bodyFor_42 hl (k := 2) rfl (by decide) (by decide) rfl (fun ls hl => ?_)
          refine lv_goto (tgt := 4) hx hb dX1_bodyFor_45 (by decide) ?_
          refine lv_iload_n hx hb dX1_bodyFor_4 rfl (lv_at hl 0 rfl) ?_
          refine lv_bipush (v := 7) hx hb dX1_bodyFor_5 (by decide) ?_
          refine lv_icmp_ge (tgt := 48) hx hb dX1_bodyFor_7 (by decide) (fun c_12 => ?_) (fun c_12 => ?_)
          · exact absurd c_12 (by decide)
          · refine lv_iload_n hx hb dX1_bodyFor_10 rfl (lv_at hl 1 rfl) ?_
            refine lv_iconst (v := 0) hx hb dX1_bodyFor_11 (by decide) ?_
            refine lv_bipush (v := 6) hx hb dX1_bodyFor_12 (by decide) ?_
            refine zc_SN (As := [.int 0, .int 0, .int 6]) (rest := []) ⟨hx, hb, hml, hown, hts⟩ (c_within l D cI cJ cZ cP cS po (0) (0) (6) ) ⟨(va_cnB 3 hts gX1_bodyFor_X7_within_n44 rfl rfl rfl (hN.1 (RX1, 44, yX7_within) (List.mem_of_getElem? (i := 13) rfl)) (hts _ (List.mem_of_getElem? (i := 2) rfl)) dh_X7_within ⟨Nat.le_of_ble_eq_true rfl, Nat.le_of_ble_eq_true rfl⟩), (hts _ (List.mem_of_getElem? (i := 1) rfl)), trivial⟩ hK hN hZ rfl hl.1 rfl (Nat.le_of_ble_eq_true rfl) dX1_bodyFor_14 ⟨Nat.le_of_ble_eq_true rfl, Nat.le_of_ble_eq_true rfl⟩ (fun r_13 hr_13 => ?_)
            rcases hr_13 with ⟨rfl, g_14⟩ | ⟨rfl, g_15, g_16⟩ | ⟨rfl, g_17, g_18⟩
            · exfalso; omega
            · exfalso; omega
            · refine lv_if_eq (tgt := 48) hx hb dX1_bodyFor_17 (by decide) (fun c_19 => ?_) (fun c_19 => ?_)
              · exact absurd c_19 (by decide)
              · refine lv_iload_n hx hb dX1_bodyFor_20 rfl (lv_at hl 1 rfl) ?_
                refine lv_iload_n hx hb dX1_bodyFor_21 rfl (lv_at hl 4 rfl) ?_
                refine zc_S (As := [.int 0, .int 2]) (rest := []) ⟨hx, hb, hml, hown, hts⟩ (c_M_own_0_2 l D cI cJ cZ cP cS po  ) (va_cwS 2 hts gX1_bodyFor_X1_ownBody rfl rfl rfl dh_X1_ownBody ⟨Nat.le_of_ble_eq_true rfl, Nat.le_of_ble_eq_true rfl⟩) hK hN hZ rfl hl.1 rfl (Nat.le_of_ble_eq_true rfl) dX1_bodyFor_22 ⟨Nat.le_of_ble_eq_true rfl, Nat.le_of_ble_eq_true rfl⟩ (fun r_20 hr_20 => ?_)
                obtain rfl := hr_20
                refine lv_istore (lv' := [(4, .int 12), (3, .int 1), (2, .int 0), (0, .int 1), (1, .int 2)]) hx hb dX1_bodyFor_25 hl (by decide) rfl (fun ls hl => ?_)
                refine lv_iload hx hb dX1_bodyFor_27 (lv_at hl 0 rfl) ?_
                refine lv_iconst (v := (-1)) hx hb dX1_bodyFor_29 (by decide) ?_
                refine lv_icmp_eq (tgt := 36) hx hb dX1_bodyFor_30 (by decide) (fun c_21 => ?_) (fun c_21 => ?_)
                · exact absurd c_21 (by decide)
                · refine lv_iload hx hb dX1_bodyFor_33 (lv_at hl 0 rfl) ?_
                  exact W.iret (v := 12) hx hb hr (fun t ht hW => ⟨12, rfl, rfl, ht⟩) (fun q hq => by cases hq) dX1_bodyFor_35
        · exact absurd c_10 (by decide)
set_option maxHeartbeats 4000000 in
set_option maxRecDepth 100000 in
theorem c_M_bodyFor_2_0 (l : Launch) (D : va_G) (cI cJ cZ cP cS : ClassId) (po : zPool)   : Met l yX1_bodyFor wsX1_bodyFor ({ frames := 1, cells := 0, slots := 0, locals := 22 }) (va_Pc [.int 2, .int 0] (zR D (zKT cI cJ cZ cP cS) po [])) (vp_Si (fun r => r = 10)) 0 0 (fun _ => False) := by
  refine Met.ofW (cc := cX1_bodyFor) (maxL := 5) (ret := (some .int)) (by decide) rfl ?_
  intro p e s m args below meth c s₁ B hml hv
  obtain ⟨rfl, hP, hK, hN, hZ⟩ := hv
  have hx := B.exec
  have hb := B.bytes
  have hr := B.returns
  have hts := atoms_spec (ws := wsX1_bodyFor) B.pre
  have hown : s.vm.findClass RX1 = some m.cls := findClass_of_methodNamed B.named
  have hlocks := B.notSynchronized
  have hl := lv_entry ([.int 2, .int 0]) (n := 5) (Nat.le_of_ble_eq_true rfl)
  rw [lg_entry_eq]
  generalize (lg_sl ([.int 2, .int 0]) ++ List.replicate (5 - (lg_sl ([.int 2, .int 0])).length) Slot.unset).toArray = ls at hl ⊢
  replace hl : lv_has ls 5 [(0, .int 2), (1, .int 0)] := hl
  refine lv_iload_n hx hb dX1_bodyFor_0 rfl (lv_at hl 0 rfl) ?_
  refine lv_istore_n (lv' := [(2, .int 2), (0, .int 2), (1, .int 0)]) hx hb dX1_bodyFor_1 rfl hl (by decide) rfl (fun ls hl => ?_)
  refine lv_iconst (v := 0) hx hb dX1_bodyFor_2 (by decide) ?_
  refine lv_istore_n (lv' := [(3, .int 0), (2, .int 2), (0, .int 2), (1, .int 0)]) hx hb dX1_bodyFor_3 rfl hl (by decide) rfl (fun ls hl => ?_)
  refine lv_iload_n hx hb dX1_bodyFor_4 rfl (lv_at hl 0 rfl) ?_
  refine lv_bipush (v := 7) hx hb dX1_bodyFor_5 (by decide) ?_
  refine lv_icmp_ge (tgt := 48) hx hb dX1_bodyFor_7 (by decide) (fun c_1 => ?_) (fun c_1 => ?_)
  · exact absurd c_1 (by decide)
  · refine lv_iload_n hx hb dX1_bodyFor_10 rfl (lv_at hl 1 rfl) ?_
    refine lv_iconst (v := 0) hx hb dX1_bodyFor_11 (by decide) ?_
    refine lv_bipush (v := 6) hx hb dX1_bodyFor_12 (by decide) ?_
    have kc2 : (2 : Int32).toInt = 2 := by decide
    have kc0 : (0 : Int32).toInt = 0 := by decide
    have kc6 : (6 : Int32).toInt = 6 := by decide
    refine zc_SN (As := [.int 2, .int 0, .int 6]) (rest := []) ⟨hx, hb, hml, hown, hts⟩ (c_within l D cI cJ cZ cP cS po (2) (0) (6) ) ⟨(va_cnB 3 hts gX1_bodyFor_X7_within_n44 rfl rfl rfl (hN.1 (RX1, 44, yX7_within) (List.mem_of_getElem? (i := 13) rfl)) (hts _ (List.mem_of_getElem? (i := 2) rfl)) dh_X7_within ⟨Nat.le_of_ble_eq_true rfl, Nat.le_of_ble_eq_true rfl⟩), (hts _ (List.mem_of_getElem? (i := 1) rfl)), trivial⟩ hK hN hZ rfl hl.1 rfl (Nat.le_of_ble_eq_true rfl) dX1_bodyFor_14 ⟨Nat.le_of_ble_eq_true rfl, Nat.le_of_ble_eq_true rfl⟩ (fun r_2 hr_2 => ?_)
    rcases hr_2 with ⟨rfl, g_3⟩ | ⟨rfl, g_4, g_5⟩ | ⟨rfl, g_6, g_7⟩
    · exfalso; omega
    · exfalso; omega
    · refine lv_if_eq (tgt := 48) hx hb dX1_bodyFor_17 (by decide) (fun c_8 => ?_) (fun c_8 => ?_)
      · exact absurd c_8 (by decide)
      · refine lv_iload_n hx hb dX1_bodyFor_20 rfl (lv_at hl 1 rfl) ?_
        refine lv_iload_n hx hb dX1_bodyFor_21 rfl (lv_at hl 3 rfl) ?_
        refine zc_S (As := [.int 2, .int 0]) (rest := []) ⟨hx, hb, hml, hown, hts⟩ (c_M_own_2_0 l D cI cJ cZ cP cS po  ) (va_cwS 2 hts gX1_bodyFor_X1_ownBody rfl rfl rfl dh_X1_ownBody ⟨Nat.le_of_ble_eq_true rfl, Nat.le_of_ble_eq_true rfl⟩) hK hN hZ rfl hl.1 rfl (Nat.le_of_ble_eq_true rfl) dX1_bodyFor_22 ⟨Nat.le_of_ble_eq_true rfl, Nat.le_of_ble_eq_true rfl⟩ (fun r_9 hr_9 => ?_)
        obtain rfl := hr_9
        refine lv_istore (lv' := [(4, .int (-1)), (3, .int 0), (2, .int 2), (0, .int 2), (1, .int 0)]) hx hb dX1_bodyFor_25 hl (by decide) rfl (fun ls hl => ?_)
        refine lv_iload hx hb dX1_bodyFor_27 (lv_at hl 0 rfl) ?_
        refine lv_iconst (v := (-1)) hx hb dX1_bodyFor_29 (by decide) ?_
        refine lv_icmp_eq (tgt := 36) hx hb dX1_bodyFor_30 (by decide) (fun c_10 => ?_) (fun c_10 => ?_)
        · obtain ⟨t_11, zt_11, yt_11⟩ := hZ.1.2
          refine va_getsN hx hb zt_11 va_S.rf hown (va_Nw.use rfl (hN.2.1 (RX1, 58) (List.mem_of_getElem? (i := 1) rfl))) (fun _ h9 => h9) dX1_bodyFor_36 ?_
          refine lv_iload_n hx hb dX1_bodyFor_39 rfl (lv_at hl 2 rfl) ?_
          refine va_ti hx hb yt_11 va_S.rf (zf_in (by decide) (by decide)) (v := .int 0) (by decide) dX1_bodyFor_40 ?_
          refine lv_istore_n (lv' := [(2, .int 0), (4, .int (-1)), (3, .int 0), (0, .int 2), (1, .int 0)]) hx hb dX1_bodyFor_41 rfl hl (by decide) rfl (fun ls hl => ?_)
          refine lv_iinc (v := 1) (lv' := [(3, .int 1), (2, .int 0), (4, .int (-1)), (0, .int 2), (1, .int 0)]) hx hb dX1_bodyFor_42 hl (k := 2) rfl (by decide) (by decide) rfl (fun ls hl => ?_)
          refine lv_goto (tgt := 4) hx hb dX1_bodyFor_45 (by decide) ?_
          refine lv_iload_n hx hb dX1_bodyFor_4 rfl (lv_at hl 0 rfl) ?_
          refine lv_bipush (v := 7) hx hb dX1_bodyFor_5 (by decide) ?_
          refine lv_icmp_ge (tgt := 48) hx hb dX1_bodyFor_7 (by decide) (fun c_12 => ?_) (fun c_12 => ?_)
          · exact absurd c_12 (by decide)
          · refine lv_iload_n hx hb dX1_bodyFor_10 rfl (lv_at hl 1 rfl) ?_
            refine lv_iconst (v := 0) hx hb dX1_bodyFor_11 (by decide) ?_
            refine lv_bipush (v := 6) hx hb dX1_bodyFor_12 (by decide) ?_
            refine zc_SN (As := [.int 0, .int 0, .int 6]) (rest := []) ⟨hx, hb, hml, hown, hts⟩ (c_within l D cI cJ cZ cP cS po (0) (0) (6) ) ⟨(va_cnB 3 hts gX1_bodyFor_X7_within_n44 rfl rfl rfl (hN.1 (RX1, 44, yX7_within) (List.mem_of_getElem? (i := 13) rfl)) (hts _ (List.mem_of_getElem? (i := 2) rfl)) dh_X7_within ⟨Nat.le_of_ble_eq_true rfl, Nat.le_of_ble_eq_true rfl⟩), (hts _ (List.mem_of_getElem? (i := 1) rfl)), trivial⟩ hK hN hZ rfl hl.1 rfl (Nat.le_of_ble_eq_true rfl) dX1_bodyFor_14 ⟨Nat.le_of_ble_eq_true rfl, Nat.le_of_ble_eq_true rfl⟩ (fun r_13 hr_13 => ?_)
            rcases hr_13 with ⟨rfl, g_14⟩ | ⟨rfl, g_15, g_16⟩ | ⟨rfl, g_17, g_18⟩
            · exfalso; omega
            · exfalso; omega
            · refine lv_if_eq (tgt := 48) hx hb dX1_bodyFor_17 (by decide) (fun c_19 => ?_) (fun c_19 => ?_)
              · exact absurd c_19 (by decide)
              · refine lv_iload_n hx hb dX1_bodyFor_20 rfl (lv_at hl 1 rfl) ?_
                refine lv_iload_n hx hb dX1_bodyFor_21 rfl (lv_at hl 4 rfl) ?_
                refine zc_S (As := [.int 0, .int 0]) (rest := []) ⟨hx, hb, hml, hown, hts⟩ (c_M_own_0_0 l D cI cJ cZ cP cS po  ) (va_cwS 2 hts gX1_bodyFor_X1_ownBody rfl rfl rfl dh_X1_ownBody ⟨Nat.le_of_ble_eq_true rfl, Nat.le_of_ble_eq_true rfl⟩) hK hN hZ rfl hl.1 rfl (Nat.le_of_ble_eq_true rfl) dX1_bodyFor_22 ⟨Nat.le_of_ble_eq_true rfl, Nat.le_of_ble_eq_true rfl⟩ (fun r_20 hr_20 => ?_)
                obtain rfl := hr_20
                refine lv_istore (lv' := [(4, .int 10), (3, .int 1), (2, .int 0), (0, .int 2), (1, .int 0)]) hx hb dX1_bodyFor_25 hl (by decide) rfl (fun ls hl => ?_)
                refine lv_iload hx hb dX1_bodyFor_27 (lv_at hl 0 rfl) ?_
                refine lv_iconst (v := (-1)) hx hb dX1_bodyFor_29 (by decide) ?_
                refine lv_icmp_eq (tgt := 36) hx hb dX1_bodyFor_30 (by decide) (fun c_21 => ?_) (fun c_21 => ?_)
                · exact absurd c_21 (by decide)
                · refine lv_iload hx hb dX1_bodyFor_33 (lv_at hl 0 rfl) ?_
                  exact W.iret (v := 10) hx hb hr (fun t ht hW => ⟨10, rfl, rfl, ht⟩) (fun q hq => by cases hq) dX1_bodyFor_35
        · exact absurd c_10 (by decide)
set_option maxHeartbeats 4000000 in
set_option maxRecDepth 100000 in
theorem c_M_bodyFor_2_1 (l : Launch) (D : va_G) (cI cJ cZ cP cS : ClassId) (po : zPool)   : Met l yX1_bodyFor wsX1_bodyFor ({ frames := 1, cells := 0, slots := 0, locals := 22 }) (va_Pc [.int 2, .int 1] (zR D (zKT cI cJ cZ cP cS) po [])) (vp_Si (fun r => r = 30)) 0 0 (fun _ => False) := by
  refine Met.ofW (cc := cX1_bodyFor) (maxL := 5) (ret := (some .int)) (by decide) rfl ?_
  intro p e s m args below meth c s₁ B hml hv
  obtain ⟨rfl, hP, hK, hN, hZ⟩ := hv
  have hx := B.exec
  have hb := B.bytes
  have hr := B.returns
  have hts := atoms_spec (ws := wsX1_bodyFor) B.pre
  have hown : s.vm.findClass RX1 = some m.cls := findClass_of_methodNamed B.named
  have hlocks := B.notSynchronized
  have hl := lv_entry ([.int 2, .int 1]) (n := 5) (Nat.le_of_ble_eq_true rfl)
  rw [lg_entry_eq]
  generalize (lg_sl ([.int 2, .int 1]) ++ List.replicate (5 - (lg_sl ([.int 2, .int 1])).length) Slot.unset).toArray = ls at hl ⊢
  replace hl : lv_has ls 5 [(0, .int 2), (1, .int 1)] := hl
  refine lv_iload_n hx hb dX1_bodyFor_0 rfl (lv_at hl 0 rfl) ?_
  refine lv_istore_n (lv' := [(2, .int 2), (0, .int 2), (1, .int 1)]) hx hb dX1_bodyFor_1 rfl hl (by decide) rfl (fun ls hl => ?_)
  refine lv_iconst (v := 0) hx hb dX1_bodyFor_2 (by decide) ?_
  refine lv_istore_n (lv' := [(3, .int 0), (2, .int 2), (0, .int 2), (1, .int 1)]) hx hb dX1_bodyFor_3 rfl hl (by decide) rfl (fun ls hl => ?_)
  refine lv_iload_n hx hb dX1_bodyFor_4 rfl (lv_at hl 0 rfl) ?_
  refine lv_bipush (v := 7) hx hb dX1_bodyFor_5 (by decide) ?_
  refine lv_icmp_ge (tgt := 48) hx hb dX1_bodyFor_7 (by decide) (fun c_1 => ?_) (fun c_1 => ?_)
  · exact absurd c_1 (by decide)
  · refine lv_iload_n hx hb dX1_bodyFor_10 rfl (lv_at hl 1 rfl) ?_
    refine lv_iconst (v := 0) hx hb dX1_bodyFor_11 (by decide) ?_
    refine lv_bipush (v := 6) hx hb dX1_bodyFor_12 (by decide) ?_
    have kc2 : (2 : Int32).toInt = 2 := by decide
    have kc0 : (0 : Int32).toInt = 0 := by decide
    have kc6 : (6 : Int32).toInt = 6 := by decide
    refine zc_SN (As := [.int 2, .int 0, .int 6]) (rest := []) ⟨hx, hb, hml, hown, hts⟩ (c_within l D cI cJ cZ cP cS po (2) (0) (6) ) ⟨(va_cnB 3 hts gX1_bodyFor_X7_within_n44 rfl rfl rfl (hN.1 (RX1, 44, yX7_within) (List.mem_of_getElem? (i := 13) rfl)) (hts _ (List.mem_of_getElem? (i := 2) rfl)) dh_X7_within ⟨Nat.le_of_ble_eq_true rfl, Nat.le_of_ble_eq_true rfl⟩), (hts _ (List.mem_of_getElem? (i := 1) rfl)), trivial⟩ hK hN hZ rfl hl.1 rfl (Nat.le_of_ble_eq_true rfl) dX1_bodyFor_14 ⟨Nat.le_of_ble_eq_true rfl, Nat.le_of_ble_eq_true rfl⟩ (fun r_2 hr_2 => ?_)
    rcases hr_2 with ⟨rfl, g_3⟩ | ⟨rfl, g_4, g_5⟩ | ⟨rfl, g_6, g_7⟩
    · exfalso; omega
    · exfalso; omega
    · refine lv_if_eq (tgt := 48) hx hb dX1_bodyFor_17 (by decide) (fun c_8 => ?_) (fun c_8 => ?_)
      · exact absurd c_8 (by decide)
      · refine lv_iload_n hx hb dX1_bodyFor_20 rfl (lv_at hl 1 rfl) ?_
        refine lv_iload_n hx hb dX1_bodyFor_21 rfl (lv_at hl 3 rfl) ?_
        refine zc_S (As := [.int 2, .int 1]) (rest := []) ⟨hx, hb, hml, hown, hts⟩ (c_M_own_2_1 l D cI cJ cZ cP cS po  ) (va_cwS 2 hts gX1_bodyFor_X1_ownBody rfl rfl rfl dh_X1_ownBody ⟨Nat.le_of_ble_eq_true rfl, Nat.le_of_ble_eq_true rfl⟩) hK hN hZ rfl hl.1 rfl (Nat.le_of_ble_eq_true rfl) dX1_bodyFor_22 ⟨Nat.le_of_ble_eq_true rfl, Nat.le_of_ble_eq_true rfl⟩ (fun r_9 hr_9 => ?_)
        obtain rfl := hr_9
        refine lv_istore (lv' := [(4, .int 30), (3, .int 0), (2, .int 2), (0, .int 2), (1, .int 1)]) hx hb dX1_bodyFor_25 hl (by decide) rfl (fun ls hl => ?_)
        refine lv_iload hx hb dX1_bodyFor_27 (lv_at hl 0 rfl) ?_
        refine lv_iconst (v := (-1)) hx hb dX1_bodyFor_29 (by decide) ?_
        refine lv_icmp_eq (tgt := 36) hx hb dX1_bodyFor_30 (by decide) (fun c_10 => ?_) (fun c_10 => ?_)
        · exact absurd c_10 (by decide)
        · refine lv_iload hx hb dX1_bodyFor_33 (lv_at hl 0 rfl) ?_
          exact W.iret (v := 30) hx hb hr (fun t ht hW => ⟨30, rfl, rfl, ht⟩) (fun q hq => by cases hq) dX1_bodyFor_35
set_option maxHeartbeats 4000000 in
set_option maxRecDepth 100000 in
theorem c_M_bodyFor_2_2 (l : Launch) (D : va_G) (cI cJ cZ cP cS : ClassId) (po : zPool)   : Met l yX1_bodyFor wsX1_bodyFor ({ frames := 1, cells := 0, slots := 0, locals := 22 }) (va_Pc [.int 2, .int 2] (zR D (zKT cI cJ cZ cP cS) po [])) (vp_Si (fun r => r = 12)) 0 0 (fun _ => False) := by
  refine Met.ofW (cc := cX1_bodyFor) (maxL := 5) (ret := (some .int)) (by decide) rfl ?_
  intro p e s m args below meth c s₁ B hml hv
  obtain ⟨rfl, hP, hK, hN, hZ⟩ := hv
  have hx := B.exec
  have hb := B.bytes
  have hr := B.returns
  have hts := atoms_spec (ws := wsX1_bodyFor) B.pre
  have hown : s.vm.findClass RX1 = some m.cls := findClass_of_methodNamed B.named
  have hlocks := B.notSynchronized
  have hl := lv_entry ([.int 2, .int 2]) (n := 5) (Nat.le_of_ble_eq_true rfl)
  rw [lg_entry_eq]
  generalize (lg_sl ([.int 2, .int 2]) ++ List.replicate (5 - (lg_sl ([.int 2, .int 2])).length) Slot.unset).toArray = ls at hl ⊢
  replace hl : lv_has ls 5 [(0, .int 2), (1, .int 2)] := hl
  refine lv_iload_n hx hb dX1_bodyFor_0 rfl (lv_at hl 0 rfl) ?_
  refine lv_istore_n (lv' := [(2, .int 2), (0, .int 2), (1, .int 2)]) hx hb dX1_bodyFor_1 rfl hl (by decide) rfl (fun ls hl => ?_)
  refine lv_iconst (v := 0) hx hb dX1_bodyFor_2 (by decide) ?_
  refine lv_istore_n (lv' := [(3, .int 0), (2, .int 2), (0, .int 2), (1, .int 2)]) hx hb dX1_bodyFor_3 rfl hl (by decide) rfl (fun ls hl => ?_)
  refine lv_iload_n hx hb dX1_bodyFor_4 rfl (lv_at hl 0 rfl) ?_
  refine lv_bipush (v := 7) hx hb dX1_bodyFor_5 (by decide) ?_
  refine lv_icmp_ge (tgt := 48) hx hb dX1_bodyFor_7 (by decide) (fun c_1 => ?_) (fun c_1 => ?_)
  · exact absurd c_1 (by decide)
  · refine lv_iload_n hx hb dX1_bodyFor_10 rfl (lv_at hl 1 rfl) ?_
    refine lv_iconst (v := 0) hx hb dX1_bodyFor_11 (by decide) ?_
    refine lv_bipush (v := 6) hx hb dX1_bodyFor_12 (by decide) ?_
    have kc2 : (2 : Int32).toInt = 2 := by decide
    have kc0 : (0 : Int32).toInt = 0 := by decide
    have kc6 : (6 : Int32).toInt = 6 := by decide
    refine zc_SN (As := [.int 2, .int 0, .int 6]) (rest := []) ⟨hx, hb, hml, hown, hts⟩ (c_within l D cI cJ cZ cP cS po (2) (0) (6) ) ⟨(va_cnB 3 hts gX1_bodyFor_X7_within_n44 rfl rfl rfl (hN.1 (RX1, 44, yX7_within) (List.mem_of_getElem? (i := 13) rfl)) (hts _ (List.mem_of_getElem? (i := 2) rfl)) dh_X7_within ⟨Nat.le_of_ble_eq_true rfl, Nat.le_of_ble_eq_true rfl⟩), (hts _ (List.mem_of_getElem? (i := 1) rfl)), trivial⟩ hK hN hZ rfl hl.1 rfl (Nat.le_of_ble_eq_true rfl) dX1_bodyFor_14 ⟨Nat.le_of_ble_eq_true rfl, Nat.le_of_ble_eq_true rfl⟩ (fun r_2 hr_2 => ?_)
    rcases hr_2 with ⟨rfl, g_3⟩ | ⟨rfl, g_4, g_5⟩ | ⟨rfl, g_6, g_7⟩
    · exfalso; omega
    · exfalso; omega
    · refine lv_if_eq (tgt := 48) hx hb dX1_bodyFor_17 (by decide) (fun c_8 => ?_) (fun c_8 => ?_)
      · exact absurd c_8 (by decide)
      · refine lv_iload_n hx hb dX1_bodyFor_20 rfl (lv_at hl 1 rfl) ?_
        refine lv_iload_n hx hb dX1_bodyFor_21 rfl (lv_at hl 3 rfl) ?_
        refine zc_S (As := [.int 2, .int 2]) (rest := []) ⟨hx, hb, hml, hown, hts⟩ (c_M_own_2_2 l D cI cJ cZ cP cS po  ) (va_cwS 2 hts gX1_bodyFor_X1_ownBody rfl rfl rfl dh_X1_ownBody ⟨Nat.le_of_ble_eq_true rfl, Nat.le_of_ble_eq_true rfl⟩) hK hN hZ rfl hl.1 rfl (Nat.le_of_ble_eq_true rfl) dX1_bodyFor_22 ⟨Nat.le_of_ble_eq_true rfl, Nat.le_of_ble_eq_true rfl⟩ (fun r_9 hr_9 => ?_)
        obtain rfl := hr_9
        refine lv_istore (lv' := [(4, .int (-1)), (3, .int 0), (2, .int 2), (0, .int 2), (1, .int 2)]) hx hb dX1_bodyFor_25 hl (by decide) rfl (fun ls hl => ?_)
        refine lv_iload hx hb dX1_bodyFor_27 (lv_at hl 0 rfl) ?_
        refine lv_iconst (v := (-1)) hx hb dX1_bodyFor_29 (by decide) ?_
        refine lv_icmp_eq (tgt := 36) hx hb dX1_bodyFor_30 (by decide) (fun c_10 => ?_) (fun c_10 => ?_)
        · obtain ⟨t_11, zt_11, yt_11⟩ := hZ.1.2
          refine va_getsN hx hb zt_11 va_S.rf hown (va_Nw.use rfl (hN.2.1 (RX1, 58) (List.mem_of_getElem? (i := 1) rfl))) (fun _ h9 => h9) dX1_bodyFor_36 ?_
          refine lv_iload_n hx hb dX1_bodyFor_39 rfl (lv_at hl 2 rfl) ?_
          refine va_ti hx hb yt_11 va_S.rf (zf_in (by decide) (by decide)) (v := .int 0) (by decide) dX1_bodyFor_40 ?_
          refine lv_istore_n (lv' := [(2, .int 0), (4, .int (-1)), (3, .int 0), (0, .int 2), (1, .int 2)]) hx hb dX1_bodyFor_41 rfl hl (by decide) rfl (fun ls hl => ?_)
          refine lv_iinc (v := 1) (lv' := [(3, .int 1), (2, .int 0), (4, .int (-1)), (0, .int 2), (1, .int 2)]) hx hb dX1_bodyFor_42 hl (k := 2) rfl (by decide) (by decide) rfl (fun ls hl => ?_)
          refine lv_goto (tgt := 4) hx hb dX1_bodyFor_45 (by decide) ?_
          refine lv_iload_n hx hb dX1_bodyFor_4 rfl (lv_at hl 0 rfl) ?_
          refine lv_bipush (v := 7) hx hb dX1_bodyFor_5 (by decide) ?_
          refine lv_icmp_ge (tgt := 48) hx hb dX1_bodyFor_7 (by decide) (fun c_12 => ?_) (fun c_12 => ?_)
          · exact absurd c_12 (by decide)
          · refine lv_iload_n hx hb dX1_bodyFor_10 rfl (lv_at hl 1 rfl) ?_
            refine lv_iconst (v := 0) hx hb dX1_bodyFor_11 (by decide) ?_
            refine lv_bipush (v := 6) hx hb dX1_bodyFor_12 (by decide) ?_
            refine zc_SN (As := [.int 0, .int 0, .int 6]) (rest := []) ⟨hx, hb, hml, hown, hts⟩ (c_within l D cI cJ cZ cP cS po (0) (0) (6) ) ⟨(va_cnB 3 hts gX1_bodyFor_X7_within_n44 rfl rfl rfl (hN.1 (RX1, 44, yX7_within) (List.mem_of_getElem? (i := 13) rfl)) (hts _ (List.mem_of_getElem? (i := 2) rfl)) dh_X7_within ⟨Nat.le_of_ble_eq_true rfl, Nat.le_of_ble_eq_true rfl⟩), (hts _ (List.mem_of_getElem? (i := 1) rfl)), trivial⟩ hK hN hZ rfl hl.1 rfl (Nat.le_of_ble_eq_true rfl) dX1_bodyFor_14 ⟨Nat.le_of_ble_eq_true rfl, Nat.le_of_ble_eq_true rfl⟩ (fun r_13 hr_13 => ?_)
            rcases hr_13 with ⟨rfl, g_14⟩ | ⟨rfl, g_15, g_16⟩ | ⟨rfl, g_17, g_18⟩
            · exfalso; omega
            · exfalso; omega
            · refine lv_if_eq (tgt := 48) hx hb dX1_bodyFor_17 (by decide) (fun c_19 => ?_) (fun c_19 => ?_)
              · exact absurd c_19 (by decide)
              · refine lv_iload_n hx hb dX1_bodyFor_20 rfl (lv_at hl 1 rfl) ?_
                refine lv_iload_n hx hb dX1_bodyFor_21 rfl (lv_at hl 4 rfl) ?_
                refine zc_S (As := [.int 0, .int 2]) (rest := []) ⟨hx, hb, hml, hown, hts⟩ (c_M_own_0_2 l D cI cJ cZ cP cS po  ) (va_cwS 2 hts gX1_bodyFor_X1_ownBody rfl rfl rfl dh_X1_ownBody ⟨Nat.le_of_ble_eq_true rfl, Nat.le_of_ble_eq_true rfl⟩) hK hN hZ rfl hl.1 rfl (Nat.le_of_ble_eq_true rfl) dX1_bodyFor_22 ⟨Nat.le_of_ble_eq_true rfl, Nat.le_of_ble_eq_true rfl⟩ (fun r_20 hr_20 => ?_)
                obtain rfl := hr_20
                refine lv_istore (lv' := [(4, .int 12), (3, .int 1), (2, .int 0), (0, .int 2), (1, .int 2)]) hx hb dX1_bodyFor_25 hl (by decide) rfl (fun ls hl => ?_)
                refine lv_iload hx hb dX1_bodyFor_27 (lv_at hl 0 rfl) ?_
                refine lv_iconst (v := (-1)) hx hb dX1_bodyFor_29 (by decide) ?_
                refine lv_icmp_eq (tgt := 36) hx hb dX1_bodyFor_30 (by decide) (fun c_21 => ?_) (fun c_21 => ?_)
                · exact absurd c_21 (by decide)
                · refine lv_iload hx hb dX1_bodyFor_33 (lv_at hl 0 rfl) ?_
                  exact W.iret (v := 12) hx hb hr (fun t ht hW => ⟨12, rfl, rfl, ht⟩) (fun q hq => by cases hq) dX1_bodyFor_35
        · exact absurd c_10 (by decide)
set_option maxHeartbeats 4000000 in
set_option maxRecDepth 100000 in
theorem c_M_bodyFor_3_0 (l : Launch) (D : va_G) (cI cJ cZ cP cS : ClassId) (po : zPool)   : Met l yX1_bodyFor wsX1_bodyFor ({ frames := 1, cells := 0, slots := 0, locals := 22 }) (va_Pc [.int 3, .int 0] (zR D (zKT cI cJ cZ cP cS) po [])) (vp_Si (fun r => r = 20)) 0 0 (fun _ => False) := by
  refine Met.ofW (cc := cX1_bodyFor) (maxL := 5) (ret := (some .int)) (by decide) rfl ?_
  intro p e s m args below meth c s₁ B hml hv
  obtain ⟨rfl, hP, hK, hN, hZ⟩ := hv
  have hx := B.exec
  have hb := B.bytes
  have hr := B.returns
  have hts := atoms_spec (ws := wsX1_bodyFor) B.pre
  have hown : s.vm.findClass RX1 = some m.cls := findClass_of_methodNamed B.named
  have hlocks := B.notSynchronized
  have hl := lv_entry ([.int 3, .int 0]) (n := 5) (Nat.le_of_ble_eq_true rfl)
  rw [lg_entry_eq]
  generalize (lg_sl ([.int 3, .int 0]) ++ List.replicate (5 - (lg_sl ([.int 3, .int 0])).length) Slot.unset).toArray = ls at hl ⊢
  replace hl : lv_has ls 5 [(0, .int 3), (1, .int 0)] := hl
  refine lv_iload_n hx hb dX1_bodyFor_0 rfl (lv_at hl 0 rfl) ?_
  refine lv_istore_n (lv' := [(2, .int 3), (0, .int 3), (1, .int 0)]) hx hb dX1_bodyFor_1 rfl hl (by decide) rfl (fun ls hl => ?_)
  refine lv_iconst (v := 0) hx hb dX1_bodyFor_2 (by decide) ?_
  refine lv_istore_n (lv' := [(3, .int 0), (2, .int 3), (0, .int 3), (1, .int 0)]) hx hb dX1_bodyFor_3 rfl hl (by decide) rfl (fun ls hl => ?_)
  refine lv_iload_n hx hb dX1_bodyFor_4 rfl (lv_at hl 0 rfl) ?_
  refine lv_bipush (v := 7) hx hb dX1_bodyFor_5 (by decide) ?_
  refine lv_icmp_ge (tgt := 48) hx hb dX1_bodyFor_7 (by decide) (fun c_1 => ?_) (fun c_1 => ?_)
  · exact absurd c_1 (by decide)
  · refine lv_iload_n hx hb dX1_bodyFor_10 rfl (lv_at hl 1 rfl) ?_
    refine lv_iconst (v := 0) hx hb dX1_bodyFor_11 (by decide) ?_
    refine lv_bipush (v := 6) hx hb dX1_bodyFor_12 (by decide) ?_
    have kc3 : (3 : Int32).toInt = 3 := by decide
    have kc0 : (0 : Int32).toInt = 0 := by decide
    have kc6 : (6 : Int32).toInt = 6 := by decide
    refine zc_SN (As := [.int 3, .int 0, .int 6]) (rest := []) ⟨hx, hb, hml, hown, hts⟩ (c_within l D cI cJ cZ cP cS po (3) (0) (6) ) ⟨(va_cnB 3 hts gX1_bodyFor_X7_within_n44 rfl rfl rfl (hN.1 (RX1, 44, yX7_within) (List.mem_of_getElem? (i := 13) rfl)) (hts _ (List.mem_of_getElem? (i := 2) rfl)) dh_X7_within ⟨Nat.le_of_ble_eq_true rfl, Nat.le_of_ble_eq_true rfl⟩), (hts _ (List.mem_of_getElem? (i := 1) rfl)), trivial⟩ hK hN hZ rfl hl.1 rfl (Nat.le_of_ble_eq_true rfl) dX1_bodyFor_14 ⟨Nat.le_of_ble_eq_true rfl, Nat.le_of_ble_eq_true rfl⟩ (fun r_2 hr_2 => ?_)
    rcases hr_2 with ⟨rfl, g_3⟩ | ⟨rfl, g_4, g_5⟩ | ⟨rfl, g_6, g_7⟩
    · exfalso; omega
    · exfalso; omega
    · refine lv_if_eq (tgt := 48) hx hb dX1_bodyFor_17 (by decide) (fun c_8 => ?_) (fun c_8 => ?_)
      · exact absurd c_8 (by decide)
      · refine lv_iload_n hx hb dX1_bodyFor_20 rfl (lv_at hl 1 rfl) ?_
        refine lv_iload_n hx hb dX1_bodyFor_21 rfl (lv_at hl 3 rfl) ?_
        refine zc_S (As := [.int 3, .int 0]) (rest := []) ⟨hx, hb, hml, hown, hts⟩ (c_M_own_3_0 l D cI cJ cZ cP cS po  ) (va_cwS 2 hts gX1_bodyFor_X1_ownBody rfl rfl rfl dh_X1_ownBody ⟨Nat.le_of_ble_eq_true rfl, Nat.le_of_ble_eq_true rfl⟩) hK hN hZ rfl hl.1 rfl (Nat.le_of_ble_eq_true rfl) dX1_bodyFor_22 ⟨Nat.le_of_ble_eq_true rfl, Nat.le_of_ble_eq_true rfl⟩ (fun r_9 hr_9 => ?_)
        obtain rfl := hr_9
        refine lv_istore (lv' := [(4, .int (-1)), (3, .int 0), (2, .int 3), (0, .int 3), (1, .int 0)]) hx hb dX1_bodyFor_25 hl (by decide) rfl (fun ls hl => ?_)
        refine lv_iload hx hb dX1_bodyFor_27 (lv_at hl 0 rfl) ?_
        refine lv_iconst (v := (-1)) hx hb dX1_bodyFor_29 (by decide) ?_
        refine lv_icmp_eq (tgt := 36) hx hb dX1_bodyFor_30 (by decide) (fun c_10 => ?_) (fun c_10 => ?_)
        · obtain ⟨t_11, zt_11, yt_11⟩ := hZ.1.2
          refine va_getsN hx hb zt_11 va_S.rf hown (va_Nw.use rfl (hN.2.1 (RX1, 58) (List.mem_of_getElem? (i := 1) rfl))) (fun _ h9 => h9) dX1_bodyFor_36 ?_
          refine lv_iload_n hx hb dX1_bodyFor_39 rfl (lv_at hl 2 rfl) ?_
          refine va_ti hx hb yt_11 va_S.rf (zf_in (by decide) (by decide)) (v := .int 1) (by decide) dX1_bodyFor_40 ?_
          refine lv_istore_n (lv' := [(2, .int 1), (4, .int (-1)), (3, .int 0), (0, .int 3), (1, .int 0)]) hx hb dX1_bodyFor_41 rfl hl (by decide) rfl (fun ls hl => ?_)
          refine lv_iinc (v := 1) (lv' := [(3, .int 1), (2, .int 1), (4, .int (-1)), (0, .int 3), (1, .int 0)]) hx hb dX1_bodyFor_42 hl (k := 2) rfl (by decide) (by decide) rfl (fun ls hl => ?_)
          refine lv_goto (tgt := 4) hx hb dX1_bodyFor_45 (by decide) ?_
          refine lv_iload_n hx hb dX1_bodyFor_4 rfl (lv_at hl 0 rfl) ?_
          refine lv_bipush (v := 7) hx hb dX1_bodyFor_5 (by decide) ?_
          refine lv_icmp_ge (tgt := 48) hx hb dX1_bodyFor_7 (by decide) (fun c_12 => ?_) (fun c_12 => ?_)
          · exact absurd c_12 (by decide)
          · refine lv_iload_n hx hb dX1_bodyFor_10 rfl (lv_at hl 1 rfl) ?_
            refine lv_iconst (v := 0) hx hb dX1_bodyFor_11 (by decide) ?_
            refine lv_bipush (v := 6) hx hb dX1_bodyFor_12 (by decide) ?_
            have kc1 : (1 : Int32).toInt = 1 := by decide
            refine zc_SN (As := [.int 1, .int 0, .int 6]) (rest := []) ⟨hx, hb, hml, hown, hts⟩ (c_within l D cI cJ cZ cP cS po (1) (0) (6) ) ⟨(va_cnB 3 hts gX1_bodyFor_X7_within_n44 rfl rfl rfl (hN.1 (RX1, 44, yX7_within) (List.mem_of_getElem? (i := 13) rfl)) (hts _ (List.mem_of_getElem? (i := 2) rfl)) dh_X7_within ⟨Nat.le_of_ble_eq_true rfl, Nat.le_of_ble_eq_true rfl⟩), (hts _ (List.mem_of_getElem? (i := 1) rfl)), trivial⟩ hK hN hZ rfl hl.1 rfl (Nat.le_of_ble_eq_true rfl) dX1_bodyFor_14 ⟨Nat.le_of_ble_eq_true rfl, Nat.le_of_ble_eq_true rfl⟩ (fun r_13 hr_13 => ?_)
            rcases hr_13 with ⟨rfl, g_14⟩ | ⟨rfl, g_15, g_16⟩ | ⟨rfl, g_17, g_18⟩
            · exfalso; omega
            · exfalso; omega
            · refine lv_if_eq (tgt := 48) hx hb dX1_bodyFor_17 (by decide) (fun c_19 => ?_) (fun c_19 => ?_)
              · exact absurd c_19 (by decide)
              · refine lv_iload_n hx hb dX1_bodyFor_20 rfl (lv_at hl 1 rfl) ?_
                refine lv_iload_n hx hb dX1_bodyFor_21 rfl (lv_at hl 4 rfl) ?_
                refine zc_S (As := [.int 1, .int 0]) (rest := []) ⟨hx, hb, hml, hown, hts⟩ (c_M_own_1_0 l D cI cJ cZ cP cS po  ) (va_cwS 2 hts gX1_bodyFor_X1_ownBody rfl rfl rfl dh_X1_ownBody ⟨Nat.le_of_ble_eq_true rfl, Nat.le_of_ble_eq_true rfl⟩) hK hN hZ rfl hl.1 rfl (Nat.le_of_ble_eq_true rfl) dX1_bodyFor_22 ⟨Nat.le_of_ble_eq_true rfl, Nat.le_of_ble_eq_true rfl⟩ (fun r_20 hr_20 => ?_)
                obtain rfl := hr_20
                refine lv_istore (lv' := [(4, .int 20), (3, .int 1), (2, .int 1), (0, .int 3), (1, .int 0)]) hx hb dX1_bodyFor_25 hl (by decide) rfl (fun ls hl => ?_)
                refine lv_iload hx hb dX1_bodyFor_27 (lv_at hl 0 rfl) ?_
                refine lv_iconst (v := (-1)) hx hb dX1_bodyFor_29 (by decide) ?_
                refine lv_icmp_eq (tgt := 36) hx hb dX1_bodyFor_30 (by decide) (fun c_21 => ?_) (fun c_21 => ?_)
                · exact absurd c_21 (by decide)
                · refine lv_iload hx hb dX1_bodyFor_33 (lv_at hl 0 rfl) ?_
                  exact W.iret (v := 20) hx hb hr (fun t ht hW => ⟨20, rfl, rfl, ht⟩) (fun q hq => by cases hq) dX1_bodyFor_35
        · exact absurd c_10 (by decide)
set_option maxHeartbeats 4000000 in
set_option maxRecDepth 100000 in
theorem c_M_bodyFor_3_1 (l : Launch) (D : va_G) (cI cJ cZ cP cS : ClassId) (po : zPool)   : Met l yX1_bodyFor wsX1_bodyFor ({ frames := 1, cells := 0, slots := 0, locals := 22 }) (va_Pc [.int 3, .int 1] (zR D (zKT cI cJ cZ cP cS) po [])) (vp_Si (fun r => r = 40)) 0 0 (fun _ => False) := by
  refine Met.ofW (cc := cX1_bodyFor) (maxL := 5) (ret := (some .int)) (by decide) rfl ?_
  intro p e s m args below meth c s₁ B hml hv
  obtain ⟨rfl, hP, hK, hN, hZ⟩ := hv
  have hx := B.exec
  have hb := B.bytes
  have hr := B.returns
  have hts := atoms_spec (ws := wsX1_bodyFor) B.pre
  have hown : s.vm.findClass RX1 = some m.cls := findClass_of_methodNamed B.named
  have hlocks := B.notSynchronized
  have hl := lv_entry ([.int 3, .int 1]) (n := 5) (Nat.le_of_ble_eq_true rfl)
  rw [lg_entry_eq]
  generalize (lg_sl ([.int 3, .int 1]) ++ List.replicate (5 - (lg_sl ([.int 3, .int 1])).length) Slot.unset).toArray = ls at hl ⊢
  replace hl : lv_has ls 5 [(0, .int 3), (1, .int 1)] := hl
  refine lv_iload_n hx hb dX1_bodyFor_0 rfl (lv_at hl 0 rfl) ?_
  refine lv_istore_n (lv' := [(2, .int 3), (0, .int 3), (1, .int 1)]) hx hb dX1_bodyFor_1 rfl hl (by decide) rfl (fun ls hl => ?_)
  refine lv_iconst (v := 0) hx hb dX1_bodyFor_2 (by decide) ?_
  refine lv_istore_n (lv' := [(3, .int 0), (2, .int 3), (0, .int 3), (1, .int 1)]) hx hb dX1_bodyFor_3 rfl hl (by decide) rfl (fun ls hl => ?_)
  refine lv_iload_n hx hb dX1_bodyFor_4 rfl (lv_at hl 0 rfl) ?_
  refine lv_bipush (v := 7) hx hb dX1_bodyFor_5 (by decide) ?_
  refine lv_icmp_ge (tgt := 48) hx hb dX1_bodyFor_7 (by decide) (fun c_1 => ?_) (fun c_1 => ?_)
  · exact absurd c_1 (by decide)
  · refine lv_iload_n hx hb dX1_bodyFor_10 rfl (lv_at hl 1 rfl) ?_
    refine lv_iconst (v := 0) hx hb dX1_bodyFor_11 (by decide) ?_
    refine lv_bipush (v := 6) hx hb dX1_bodyFor_12 (by decide) ?_
    have kc3 : (3 : Int32).toInt = 3 := by decide
    have kc0 : (0 : Int32).toInt = 0 := by decide
    have kc6 : (6 : Int32).toInt = 6 := by decide
    refine zc_SN (As := [.int 3, .int 0, .int 6]) (rest := []) ⟨hx, hb, hml, hown, hts⟩ (c_within l D cI cJ cZ cP cS po (3) (0) (6) ) ⟨(va_cnB 3 hts gX1_bodyFor_X7_within_n44 rfl rfl rfl (hN.1 (RX1, 44, yX7_within) (List.mem_of_getElem? (i := 13) rfl)) (hts _ (List.mem_of_getElem? (i := 2) rfl)) dh_X7_within ⟨Nat.le_of_ble_eq_true rfl, Nat.le_of_ble_eq_true rfl⟩), (hts _ (List.mem_of_getElem? (i := 1) rfl)), trivial⟩ hK hN hZ rfl hl.1 rfl (Nat.le_of_ble_eq_true rfl) dX1_bodyFor_14 ⟨Nat.le_of_ble_eq_true rfl, Nat.le_of_ble_eq_true rfl⟩ (fun r_2 hr_2 => ?_)
    rcases hr_2 with ⟨rfl, g_3⟩ | ⟨rfl, g_4, g_5⟩ | ⟨rfl, g_6, g_7⟩
    · exfalso; omega
    · exfalso; omega
    · refine lv_if_eq (tgt := 48) hx hb dX1_bodyFor_17 (by decide) (fun c_8 => ?_) (fun c_8 => ?_)
      · exact absurd c_8 (by decide)
      · refine lv_iload_n hx hb dX1_bodyFor_20 rfl (lv_at hl 1 rfl) ?_
        refine lv_iload_n hx hb dX1_bodyFor_21 rfl (lv_at hl 3 rfl) ?_
        refine zc_S (As := [.int 3, .int 1]) (rest := []) ⟨hx, hb, hml, hown, hts⟩ (c_M_own_3_1 l D cI cJ cZ cP cS po  ) (va_cwS 2 hts gX1_bodyFor_X1_ownBody rfl rfl rfl dh_X1_ownBody ⟨Nat.le_of_ble_eq_true rfl, Nat.le_of_ble_eq_true rfl⟩) hK hN hZ rfl hl.1 rfl (Nat.le_of_ble_eq_true rfl) dX1_bodyFor_22 ⟨Nat.le_of_ble_eq_true rfl, Nat.le_of_ble_eq_true rfl⟩ (fun r_9 hr_9 => ?_)
        obtain rfl := hr_9
        refine lv_istore (lv' := [(4, .int 40), (3, .int 0), (2, .int 3), (0, .int 3), (1, .int 1)]) hx hb dX1_bodyFor_25 hl (by decide) rfl (fun ls hl => ?_)
        refine lv_iload hx hb dX1_bodyFor_27 (lv_at hl 0 rfl) ?_
        refine lv_iconst (v := (-1)) hx hb dX1_bodyFor_29 (by decide) ?_
        refine lv_icmp_eq (tgt := 36) hx hb dX1_bodyFor_30 (by decide) (fun c_10 => ?_) (fun c_10 => ?_)
        · exact absurd c_10 (by decide)
        · refine lv_iload hx hb dX1_bodyFor_33 (lv_at hl 0 rfl) ?_
          exact W.iret (v := 40) hx hb hr (fun t ht hW => ⟨40, rfl, rfl, ht⟩) (fun q hq => by cases hq) dX1_bodyFor_35
set_option maxHeartbeats 4000000 in
set_option maxRecDepth 100000 in
theorem c_M_bodyFor_3_2 (l : Launch) (D : va_G) (cI cJ cZ cP cS : ClassId) (po : zPool)   : Met l yX1_bodyFor wsX1_bodyFor ({ frames := 1, cells := 0, slots := 0, locals := 22 }) (va_Pc [.int 3, .int 2] (zR D (zKT cI cJ cZ cP cS) po [])) (vp_Si (fun r => r = 12)) 0 0 (fun _ => False) := by
  refine Met.ofW (cc := cX1_bodyFor) (maxL := 5) (ret := (some .int)) (by decide) rfl ?_
  intro p e s m args below meth c s₁ B hml hv
  obtain ⟨rfl, hP, hK, hN, hZ⟩ := hv
  have hx := B.exec
  have hb := B.bytes
  have hr := B.returns
  have hts := atoms_spec (ws := wsX1_bodyFor) B.pre
  have hown : s.vm.findClass RX1 = some m.cls := findClass_of_methodNamed B.named
  have hlocks := B.notSynchronized
  have hl := lv_entry ([.int 3, .int 2]) (n := 5) (Nat.le_of_ble_eq_true rfl)
  rw [lg_entry_eq]
  generalize (lg_sl ([.int 3, .int 2]) ++ List.replicate (5 - (lg_sl ([.int 3, .int 2])).length) Slot.unset).toArray = ls at hl ⊢
  replace hl : lv_has ls 5 [(0, .int 3), (1, .int 2)] := hl
  refine lv_iload_n hx hb dX1_bodyFor_0 rfl (lv_at hl 0 rfl) ?_
  refine lv_istore_n (lv' := [(2, .int 3), (0, .int 3), (1, .int 2)]) hx hb dX1_bodyFor_1 rfl hl (by decide) rfl (fun ls hl => ?_)
  refine lv_iconst (v := 0) hx hb dX1_bodyFor_2 (by decide) ?_
  refine lv_istore_n (lv' := [(3, .int 0), (2, .int 3), (0, .int 3), (1, .int 2)]) hx hb dX1_bodyFor_3 rfl hl (by decide) rfl (fun ls hl => ?_)
  refine lv_iload_n hx hb dX1_bodyFor_4 rfl (lv_at hl 0 rfl) ?_
  refine lv_bipush (v := 7) hx hb dX1_bodyFor_5 (by decide) ?_
  refine lv_icmp_ge (tgt := 48) hx hb dX1_bodyFor_7 (by decide) (fun c_1 => ?_) (fun c_1 => ?_)
  · exact absurd c_1 (by decide)
  · refine lv_iload_n hx hb dX1_bodyFor_10 rfl (lv_at hl 1 rfl) ?_
    refine lv_iconst (v := 0) hx hb dX1_bodyFor_11 (by decide) ?_
    refine lv_bipush (v := 6) hx hb dX1_bodyFor_12 (by decide) ?_
    have kc3 : (3 : Int32).toInt = 3 := by decide
    have kc0 : (0 : Int32).toInt = 0 := by decide
    have kc6 : (6 : Int32).toInt = 6 := by decide
    refine zc_SN (As := [.int 3, .int 0, .int 6]) (rest := []) ⟨hx, hb, hml, hown, hts⟩ (c_within l D cI cJ cZ cP cS po (3) (0) (6) ) ⟨(va_cnB 3 hts gX1_bodyFor_X7_within_n44 rfl rfl rfl (hN.1 (RX1, 44, yX7_within) (List.mem_of_getElem? (i := 13) rfl)) (hts _ (List.mem_of_getElem? (i := 2) rfl)) dh_X7_within ⟨Nat.le_of_ble_eq_true rfl, Nat.le_of_ble_eq_true rfl⟩), (hts _ (List.mem_of_getElem? (i := 1) rfl)), trivial⟩ hK hN hZ rfl hl.1 rfl (Nat.le_of_ble_eq_true rfl) dX1_bodyFor_14 ⟨Nat.le_of_ble_eq_true rfl, Nat.le_of_ble_eq_true rfl⟩ (fun r_2 hr_2 => ?_)
    rcases hr_2 with ⟨rfl, g_3⟩ | ⟨rfl, g_4, g_5⟩ | ⟨rfl, g_6, g_7⟩
    · exfalso; omega
    · exfalso; omega
    · refine lv_if_eq (tgt := 48) hx hb dX1_bodyFor_17 (by decide) (fun c_8 => ?_) (fun c_8 => ?_)
      · exact absurd c_8 (by decide)
      · refine lv_iload_n hx hb dX1_bodyFor_20 rfl (lv_at hl 1 rfl) ?_
        refine lv_iload_n hx hb dX1_bodyFor_21 rfl (lv_at hl 3 rfl) ?_
        refine zc_S (As := [.int 3, .int 2]) (rest := []) ⟨hx, hb, hml, hown, hts⟩ (c_M_own_3_2 l D cI cJ cZ cP cS po  ) (va_cwS 2 hts gX1_bodyFor_X1_ownBody rfl rfl rfl dh_X1_ownBody ⟨Nat.le_of_ble_eq_true rfl, Nat.le_of_ble_eq_true rfl⟩) hK hN hZ rfl hl.1 rfl (Nat.le_of_ble_eq_true rfl) dX1_bodyFor_22 ⟨Nat.le_of_ble_eq_true rfl, Nat.le_of_ble_eq_true rfl⟩ (fun r_9 hr_9 => ?_)
        obtain rfl := hr_9
        refine lv_istore (lv' := [(4, .int (-1)), (3, .int 0), (2, .int 3), (0, .int 3), (1, .int 2)]) hx hb dX1_bodyFor_25 hl (by decide) rfl (fun ls hl => ?_)
        refine lv_iload hx hb dX1_bodyFor_27 (lv_at hl 0 rfl) ?_
        refine lv_iconst (v := (-1)) hx hb dX1_bodyFor_29 (by decide) ?_
        refine lv_icmp_eq (tgt := 36) hx hb dX1_bodyFor_30 (by decide) (fun c_10 => ?_) (fun c_10 => ?_)
        · obtain ⟨t_11, zt_11, yt_11⟩ := hZ.1.2
          refine va_getsN hx hb zt_11 va_S.rf hown (va_Nw.use rfl (hN.2.1 (RX1, 58) (List.mem_of_getElem? (i := 1) rfl))) (fun _ h9 => h9) dX1_bodyFor_36 ?_
          refine lv_iload_n hx hb dX1_bodyFor_39 rfl (lv_at hl 2 rfl) ?_
          refine va_ti hx hb yt_11 va_S.rf (zf_in (by decide) (by decide)) (v := .int 1) (by decide) dX1_bodyFor_40 ?_
          refine lv_istore_n (lv' := [(2, .int 1), (4, .int (-1)), (3, .int 0), (0, .int 3), (1, .int 2)]) hx hb dX1_bodyFor_41 rfl hl (by decide) rfl (fun ls hl => ?_)
          refine lv_iinc (v := 1) (lv' := [(3, .int 1), (2, .int 1), (4, .int (-1)), (0, .int 3), (1, .int 2)]) hx hb dX1_bodyFor_42 hl (k := 2) rfl (by decide) (by decide) rfl (fun ls hl => ?_)
          refine lv_goto (tgt := 4) hx hb dX1_bodyFor_45 (by decide) ?_
          refine lv_iload_n hx hb dX1_bodyFor_4 rfl (lv_at hl 0 rfl) ?_
          refine lv_bipush (v := 7) hx hb dX1_bodyFor_5 (by decide) ?_
          refine lv_icmp_ge (tgt := 48) hx hb dX1_bodyFor_7 (by decide) (fun c_12 => ?_) (fun c_12 => ?_)
          · exact absurd c_12 (by decide)
          · refine lv_iload_n hx hb dX1_bodyFor_10 rfl (lv_at hl 1 rfl) ?_
            refine lv_iconst (v := 0) hx hb dX1_bodyFor_11 (by decide) ?_
            refine lv_bipush (v := 6) hx hb dX1_bodyFor_12 (by decide) ?_
            have kc1 : (1 : Int32).toInt = 1 := by decide
            refine zc_SN (As := [.int 1, .int 0, .int 6]) (rest := []) ⟨hx, hb, hml, hown, hts⟩ (c_within l D cI cJ cZ cP cS po (1) (0) (6) ) ⟨(va_cnB 3 hts gX1_bodyFor_X7_within_n44 rfl rfl rfl (hN.1 (RX1, 44, yX7_within) (List.mem_of_getElem? (i := 13) rfl)) (hts _ (List.mem_of_getElem? (i := 2) rfl)) dh_X7_within ⟨Nat.le_of_ble_eq_true rfl, Nat.le_of_ble_eq_true rfl⟩), (hts _ (List.mem_of_getElem? (i := 1) rfl)), trivial⟩ hK hN hZ rfl hl.1 rfl (Nat.le_of_ble_eq_true rfl) dX1_bodyFor_14 ⟨Nat.le_of_ble_eq_true rfl, Nat.le_of_ble_eq_true rfl⟩ (fun r_13 hr_13 => ?_)
            rcases hr_13 with ⟨rfl, g_14⟩ | ⟨rfl, g_15, g_16⟩ | ⟨rfl, g_17, g_18⟩
            · exfalso; omega
            · exfalso; omega
            · refine lv_if_eq (tgt := 48) hx hb dX1_bodyFor_17 (by decide) (fun c_19 => ?_) (fun c_19 => ?_)
              · exact absurd c_19 (by decide)
              · refine lv_iload_n hx hb dX1_bodyFor_20 rfl (lv_at hl 1 rfl) ?_
                refine lv_iload_n hx hb dX1_bodyFor_21 rfl (lv_at hl 4 rfl) ?_
                refine zc_S (As := [.int 1, .int 2]) (rest := []) ⟨hx, hb, hml, hown, hts⟩ (c_M_own_1_2 l D cI cJ cZ cP cS po  ) (va_cwS 2 hts gX1_bodyFor_X1_ownBody rfl rfl rfl dh_X1_ownBody ⟨Nat.le_of_ble_eq_true rfl, Nat.le_of_ble_eq_true rfl⟩) hK hN hZ rfl hl.1 rfl (Nat.le_of_ble_eq_true rfl) dX1_bodyFor_22 ⟨Nat.le_of_ble_eq_true rfl, Nat.le_of_ble_eq_true rfl⟩ (fun r_20 hr_20 => ?_)
                obtain rfl := hr_20
                refine lv_istore (lv' := [(4, .int (-1)), (3, .int 1), (2, .int 1), (0, .int 3), (1, .int 2)]) hx hb dX1_bodyFor_25 hl (by decide) rfl (fun ls hl => ?_)
                refine lv_iload hx hb dX1_bodyFor_27 (lv_at hl 0 rfl) ?_
                refine lv_iconst (v := (-1)) hx hb dX1_bodyFor_29 (by decide) ?_
                refine lv_icmp_eq (tgt := 36) hx hb dX1_bodyFor_30 (by decide) (fun c_21 => ?_) (fun c_21 => ?_)
                · obtain ⟨t_22, zt_22, yt_22⟩ := hZ.1.2
                  refine va_getsN hx hb zt_22 va_S.rf hown (va_Nw.use rfl (hN.2.1 (RX1, 58) (List.mem_of_getElem? (i := 1) rfl))) (fun _ h9 => h9) dX1_bodyFor_36 ?_
                  refine lv_iload_n hx hb dX1_bodyFor_39 rfl (lv_at hl 2 rfl) ?_
                  refine va_ti hx hb yt_22 va_S.rf (zf_in (by decide) (by decide)) (v := .int 0) (by decide) dX1_bodyFor_40 ?_
                  refine lv_istore_n (lv' := [(2, .int 0), (4, .int (-1)), (3, .int 1), (0, .int 3), (1, .int 2)]) hx hb dX1_bodyFor_41 rfl hl (by decide) rfl (fun ls hl => ?_)
                  refine lv_iinc (v := 2) (lv' := [(3, .int 2), (2, .int 0), (4, .int (-1)), (0, .int 3), (1, .int 2)]) hx hb dX1_bodyFor_42 hl (k := 2) rfl (by decide) (by decide) rfl (fun ls hl => ?_)
                  refine lv_goto (tgt := 4) hx hb dX1_bodyFor_45 (by decide) ?_
                  refine lv_iload_n hx hb dX1_bodyFor_4 rfl (lv_at hl 0 rfl) ?_
                  refine lv_bipush (v := 7) hx hb dX1_bodyFor_5 (by decide) ?_
                  refine lv_icmp_ge (tgt := 48) hx hb dX1_bodyFor_7 (by decide) (fun c_23 => ?_) (fun c_23 => ?_)
                  · exact absurd c_23 (by decide)
                  · refine lv_iload_n hx hb dX1_bodyFor_10 rfl (lv_at hl 1 rfl) ?_
                    refine lv_iconst (v := 0) hx hb dX1_bodyFor_11 (by decide) ?_
                    refine lv_bipush (v := 6) hx hb dX1_bodyFor_12 (by decide) ?_
                    refine zc_SN (As := [.int 0, .int 0, .int 6]) (rest := []) ⟨hx, hb, hml, hown, hts⟩ (c_within l D cI cJ cZ cP cS po (0) (0) (6) ) ⟨(va_cnB 3 hts gX1_bodyFor_X7_within_n44 rfl rfl rfl (hN.1 (RX1, 44, yX7_within) (List.mem_of_getElem? (i := 13) rfl)) (hts _ (List.mem_of_getElem? (i := 2) rfl)) dh_X7_within ⟨Nat.le_of_ble_eq_true rfl, Nat.le_of_ble_eq_true rfl⟩), (hts _ (List.mem_of_getElem? (i := 1) rfl)), trivial⟩ hK hN hZ rfl hl.1 rfl (Nat.le_of_ble_eq_true rfl) dX1_bodyFor_14 ⟨Nat.le_of_ble_eq_true rfl, Nat.le_of_ble_eq_true rfl⟩ (fun r_24 hr_24 => ?_)
                    rcases hr_24 with ⟨rfl, g_25⟩ | ⟨rfl, g_26, g_27⟩ | ⟨rfl, g_28, g_29⟩
                    · exfalso; omega
                    · exfalso; omega
                    · refine lv_if_eq (tgt := 48) hx hb dX1_bodyFor_17 (by decide) (fun c_30 => ?_) (fun c_30 => ?_)
                      · exact absurd c_30 (by decide)
                      · refine lv_iload_n hx hb dX1_bodyFor_20 rfl (lv_at hl 1 rfl) ?_
                        refine lv_iload_n hx hb dX1_bodyFor_21 rfl (lv_at hl 4 rfl) ?_
                        refine zc_S (As := [.int 0, .int 2]) (rest := []) ⟨hx, hb, hml, hown, hts⟩ (c_M_own_0_2 l D cI cJ cZ cP cS po  ) (va_cwS 2 hts gX1_bodyFor_X1_ownBody rfl rfl rfl dh_X1_ownBody ⟨Nat.le_of_ble_eq_true rfl, Nat.le_of_ble_eq_true rfl⟩) hK hN hZ rfl hl.1 rfl (Nat.le_of_ble_eq_true rfl) dX1_bodyFor_22 ⟨Nat.le_of_ble_eq_true rfl, Nat.le_of_ble_eq_true rfl⟩ (fun r_31 hr_31 => ?_)
                        obtain rfl := hr_31
                        refine lv_istore (lv' := [(4, .int 12), (3, .int 2), (2, .int 0), (0, .int 3), (1, .int 2)]) hx hb dX1_bodyFor_25 hl (by decide) rfl (fun ls hl => ?_)
                        refine lv_iload hx hb dX1_bodyFor_27 (lv_at hl 0 rfl) ?_
                        refine lv_iconst (v := (-1)) hx hb dX1_bodyFor_29 (by decide) ?_
                        refine lv_icmp_eq (tgt := 36) hx hb dX1_bodyFor_30 (by decide) (fun c_32 => ?_) (fun c_32 => ?_)
                        · exact absurd c_32 (by decide)
                        · refine lv_iload hx hb dX1_bodyFor_33 (lv_at hl 0 rfl) ?_
                          exact W.iret (v := 12) hx hb hr (fun t ht hW => ⟨12, rfl, rfl, ht⟩) (fun q hq => by cases hq) dX1_bodyFor_35
                · exact absurd c_21 (by decide)
        · exact absurd c_10 (by decide)
set_option maxHeartbeats 4000000 in
set_option maxRecDepth 100000 in
theorem c_M_bodyFor_4_0 (l : Launch) (D : va_G) (cI cJ cZ cP cS : ClassId) (po : zPool)   : Met l yX1_bodyFor wsX1_bodyFor ({ frames := 1, cells := 0, slots := 0, locals := 22 }) (va_Pc [.int 4, .int 0] (zR D (zKT cI cJ cZ cP cS) po [])) (vp_Si (fun r => r = 51)) 0 0 (fun _ => False) := by
  refine Met.ofW (cc := cX1_bodyFor) (maxL := 5) (ret := (some .int)) (by decide) rfl ?_
  intro p e s m args below meth c s₁ B hml hv
  obtain ⟨rfl, hP, hK, hN, hZ⟩ := hv
  have hx := B.exec
  have hb := B.bytes
  have hr := B.returns
  have hts := atoms_spec (ws := wsX1_bodyFor) B.pre
  have hown : s.vm.findClass RX1 = some m.cls := findClass_of_methodNamed B.named
  have hlocks := B.notSynchronized
  have hl := lv_entry ([.int 4, .int 0]) (n := 5) (Nat.le_of_ble_eq_true rfl)
  rw [lg_entry_eq]
  generalize (lg_sl ([.int 4, .int 0]) ++ List.replicate (5 - (lg_sl ([.int 4, .int 0])).length) Slot.unset).toArray = ls at hl ⊢
  replace hl : lv_has ls 5 [(0, .int 4), (1, .int 0)] := hl
  refine lv_iload_n hx hb dX1_bodyFor_0 rfl (lv_at hl 0 rfl) ?_
  refine lv_istore_n (lv' := [(2, .int 4), (0, .int 4), (1, .int 0)]) hx hb dX1_bodyFor_1 rfl hl (by decide) rfl (fun ls hl => ?_)
  refine lv_iconst (v := 0) hx hb dX1_bodyFor_2 (by decide) ?_
  refine lv_istore_n (lv' := [(3, .int 0), (2, .int 4), (0, .int 4), (1, .int 0)]) hx hb dX1_bodyFor_3 rfl hl (by decide) rfl (fun ls hl => ?_)
  refine lv_iload_n hx hb dX1_bodyFor_4 rfl (lv_at hl 0 rfl) ?_
  refine lv_bipush (v := 7) hx hb dX1_bodyFor_5 (by decide) ?_
  refine lv_icmp_ge (tgt := 48) hx hb dX1_bodyFor_7 (by decide) (fun c_1 => ?_) (fun c_1 => ?_)
  · exact absurd c_1 (by decide)
  · refine lv_iload_n hx hb dX1_bodyFor_10 rfl (lv_at hl 1 rfl) ?_
    refine lv_iconst (v := 0) hx hb dX1_bodyFor_11 (by decide) ?_
    refine lv_bipush (v := 6) hx hb dX1_bodyFor_12 (by decide) ?_
    have kc4 : (4 : Int32).toInt = 4 := by decide
    have kc0 : (0 : Int32).toInt = 0 := by decide
    have kc6 : (6 : Int32).toInt = 6 := by decide
    refine zc_SN (As := [.int 4, .int 0, .int 6]) (rest := []) ⟨hx, hb, hml, hown, hts⟩ (c_within l D cI cJ cZ cP cS po (4) (0) (6) ) ⟨(va_cnB 3 hts gX1_bodyFor_X7_within_n44 rfl rfl rfl (hN.1 (RX1, 44, yX7_within) (List.mem_of_getElem? (i := 13) rfl)) (hts _ (List.mem_of_getElem? (i := 2) rfl)) dh_X7_within ⟨Nat.le_of_ble_eq_true rfl, Nat.le_of_ble_eq_true rfl⟩), (hts _ (List.mem_of_getElem? (i := 1) rfl)), trivial⟩ hK hN hZ rfl hl.1 rfl (Nat.le_of_ble_eq_true rfl) dX1_bodyFor_14 ⟨Nat.le_of_ble_eq_true rfl, Nat.le_of_ble_eq_true rfl⟩ (fun r_2 hr_2 => ?_)
    rcases hr_2 with ⟨rfl, g_3⟩ | ⟨rfl, g_4, g_5⟩ | ⟨rfl, g_6, g_7⟩
    · exfalso; omega
    · exfalso; omega
    · refine lv_if_eq (tgt := 48) hx hb dX1_bodyFor_17 (by decide) (fun c_8 => ?_) (fun c_8 => ?_)
      · exact absurd c_8 (by decide)
      · refine lv_iload_n hx hb dX1_bodyFor_20 rfl (lv_at hl 1 rfl) ?_
        refine lv_iload_n hx hb dX1_bodyFor_21 rfl (lv_at hl 3 rfl) ?_
        refine zc_S (As := [.int 4, .int 0]) (rest := []) ⟨hx, hb, hml, hown, hts⟩ (c_M_own_4_0 l D cI cJ cZ cP cS po  ) (va_cwS 2 hts gX1_bodyFor_X1_ownBody rfl rfl rfl dh_X1_ownBody ⟨Nat.le_of_ble_eq_true rfl, Nat.le_of_ble_eq_true rfl⟩) hK hN hZ rfl hl.1 rfl (Nat.le_of_ble_eq_true rfl) dX1_bodyFor_22 ⟨Nat.le_of_ble_eq_true rfl, Nat.le_of_ble_eq_true rfl⟩ (fun r_9 hr_9 => ?_)
        obtain rfl := hr_9
        refine lv_istore (lv' := [(4, .int 51), (3, .int 0), (2, .int 4), (0, .int 4), (1, .int 0)]) hx hb dX1_bodyFor_25 hl (by decide) rfl (fun ls hl => ?_)
        refine lv_iload hx hb dX1_bodyFor_27 (lv_at hl 0 rfl) ?_
        refine lv_iconst (v := (-1)) hx hb dX1_bodyFor_29 (by decide) ?_
        refine lv_icmp_eq (tgt := 36) hx hb dX1_bodyFor_30 (by decide) (fun c_10 => ?_) (fun c_10 => ?_)
        · exact absurd c_10 (by decide)
        · refine lv_iload hx hb dX1_bodyFor_33 (lv_at hl 0 rfl) ?_
          exact W.iret (v := 51) hx hb hr (fun t ht hW => ⟨51, rfl, rfl, ht⟩) (fun q hq => by cases hq) dX1_bodyFor_35
set_option maxHeartbeats 4000000 in
set_option maxRecDepth 100000 in
theorem c_M_bodyFor_4_1 (l : Launch) (D : va_G) (cI cJ cZ cP cS : ClassId) (po : zPool)   : Met l yX1_bodyFor wsX1_bodyFor ({ frames := 1, cells := 0, slots := 0, locals := 22 }) (va_Pc [.int 4, .int 1] (zR D (zKT cI cJ cZ cP cS) po [])) (vp_Si (fun r => r = 11)) 0 0 (fun _ => False) := by
  refine Met.ofW (cc := cX1_bodyFor) (maxL := 5) (ret := (some .int)) (by decide) rfl ?_
  intro p e s m args below meth c s₁ B hml hv
  obtain ⟨rfl, hP, hK, hN, hZ⟩ := hv
  have hx := B.exec
  have hb := B.bytes
  have hr := B.returns
  have hts := atoms_spec (ws := wsX1_bodyFor) B.pre
  have hown : s.vm.findClass RX1 = some m.cls := findClass_of_methodNamed B.named
  have hlocks := B.notSynchronized
  have hl := lv_entry ([.int 4, .int 1]) (n := 5) (Nat.le_of_ble_eq_true rfl)
  rw [lg_entry_eq]
  generalize (lg_sl ([.int 4, .int 1]) ++ List.replicate (5 - (lg_sl ([.int 4, .int 1])).length) Slot.unset).toArray = ls at hl ⊢
  replace hl : lv_has ls 5 [(0, .int 4), (1, .int 1)] := hl
  refine lv_iload_n hx hb dX1_bodyFor_0 rfl (lv_at hl 0 rfl) ?_
  refine lv_istore_n (lv' := [(2, .int 4), (0, .int 4), (1, .int 1)]) hx hb dX1_bodyFor_1 rfl hl (by decide) rfl (fun ls hl => ?_)
  refine lv_iconst (v := 0) hx hb dX1_bodyFor_2 (by decide) ?_
  refine lv_istore_n (lv' := [(3, .int 0), (2, .int 4), (0, .int 4), (1, .int 1)]) hx hb dX1_bodyFor_3 rfl hl (by decide) rfl (fun ls hl => ?_)
  refine lv_iload_n hx hb dX1_bodyFor_4 rfl (lv_at hl 0 rfl) ?_
  refine lv_bipush (v := 7) hx hb dX1_bodyFor_5 (by decide) ?_
  refine lv_icmp_ge (tgt := 48) hx hb dX1_bodyFor_7 (by decide) (fun c_1 => ?_) (fun c_1 => ?_)
  · exact absurd c_1 (by decide)
  · refine lv_iload_n hx hb dX1_bodyFor_10 rfl (lv_at hl 1 rfl) ?_
    refine lv_iconst (v := 0) hx hb dX1_bodyFor_11 (by decide) ?_
    refine lv_bipush (v := 6) hx hb dX1_bodyFor_12 (by decide) ?_
    have kc4 : (4 : Int32).toInt = 4 := by decide
    have kc0 : (0 : Int32).toInt = 0 := by decide
    have kc6 : (6 : Int32).toInt = 6 := by decide
    refine zc_SN (As := [.int 4, .int 0, .int 6]) (rest := []) ⟨hx, hb, hml, hown, hts⟩ (c_within l D cI cJ cZ cP cS po (4) (0) (6) ) ⟨(va_cnB 3 hts gX1_bodyFor_X7_within_n44 rfl rfl rfl (hN.1 (RX1, 44, yX7_within) (List.mem_of_getElem? (i := 13) rfl)) (hts _ (List.mem_of_getElem? (i := 2) rfl)) dh_X7_within ⟨Nat.le_of_ble_eq_true rfl, Nat.le_of_ble_eq_true rfl⟩), (hts _ (List.mem_of_getElem? (i := 1) rfl)), trivial⟩ hK hN hZ rfl hl.1 rfl (Nat.le_of_ble_eq_true rfl) dX1_bodyFor_14 ⟨Nat.le_of_ble_eq_true rfl, Nat.le_of_ble_eq_true rfl⟩ (fun r_2 hr_2 => ?_)
    rcases hr_2 with ⟨rfl, g_3⟩ | ⟨rfl, g_4, g_5⟩ | ⟨rfl, g_6, g_7⟩
    · exfalso; omega
    · exfalso; omega
    · refine lv_if_eq (tgt := 48) hx hb dX1_bodyFor_17 (by decide) (fun c_8 => ?_) (fun c_8 => ?_)
      · exact absurd c_8 (by decide)
      · refine lv_iload_n hx hb dX1_bodyFor_20 rfl (lv_at hl 1 rfl) ?_
        refine lv_iload_n hx hb dX1_bodyFor_21 rfl (lv_at hl 3 rfl) ?_
        refine zc_S (As := [.int 4, .int 1]) (rest := []) ⟨hx, hb, hml, hown, hts⟩ (c_M_own_4_1 l D cI cJ cZ cP cS po  ) (va_cwS 2 hts gX1_bodyFor_X1_ownBody rfl rfl rfl dh_X1_ownBody ⟨Nat.le_of_ble_eq_true rfl, Nat.le_of_ble_eq_true rfl⟩) hK hN hZ rfl hl.1 rfl (Nat.le_of_ble_eq_true rfl) dX1_bodyFor_22 ⟨Nat.le_of_ble_eq_true rfl, Nat.le_of_ble_eq_true rfl⟩ (fun r_9 hr_9 => ?_)
        obtain rfl := hr_9
        refine lv_istore (lv' := [(4, .int (-1)), (3, .int 0), (2, .int 4), (0, .int 4), (1, .int 1)]) hx hb dX1_bodyFor_25 hl (by decide) rfl (fun ls hl => ?_)
        refine lv_iload hx hb dX1_bodyFor_27 (lv_at hl 0 rfl) ?_
        refine lv_iconst (v := (-1)) hx hb dX1_bodyFor_29 (by decide) ?_
        refine lv_icmp_eq (tgt := 36) hx hb dX1_bodyFor_30 (by decide) (fun c_10 => ?_) (fun c_10 => ?_)
        · obtain ⟨t_11, zt_11, yt_11⟩ := hZ.1.2
          refine va_getsN hx hb zt_11 va_S.rf hown (va_Nw.use rfl (hN.2.1 (RX1, 58) (List.mem_of_getElem? (i := 1) rfl))) (fun _ h9 => h9) dX1_bodyFor_36 ?_
          refine lv_iload_n hx hb dX1_bodyFor_39 rfl (lv_at hl 2 rfl) ?_
          refine va_ti hx hb yt_11 va_S.rf (zf_in (by decide) (by decide)) (v := .int 0) (by decide) dX1_bodyFor_40 ?_
          refine lv_istore_n (lv' := [(2, .int 0), (4, .int (-1)), (3, .int 0), (0, .int 4), (1, .int 1)]) hx hb dX1_bodyFor_41 rfl hl (by decide) rfl (fun ls hl => ?_)
          refine lv_iinc (v := 1) (lv' := [(3, .int 1), (2, .int 0), (4, .int (-1)), (0, .int 4), (1, .int 1)]) hx hb dX1_bodyFor_42 hl (k := 2) rfl (by decide) (by decide) rfl (fun ls hl => ?_)
          refine lv_goto (tgt := 4) hx hb dX1_bodyFor_45 (by decide) ?_
          refine lv_iload_n hx hb dX1_bodyFor_4 rfl (lv_at hl 0 rfl) ?_
          refine lv_bipush (v := 7) hx hb dX1_bodyFor_5 (by decide) ?_
          refine lv_icmp_ge (tgt := 48) hx hb dX1_bodyFor_7 (by decide) (fun c_12 => ?_) (fun c_12 => ?_)
          · exact absurd c_12 (by decide)
          · refine lv_iload_n hx hb dX1_bodyFor_10 rfl (lv_at hl 1 rfl) ?_
            refine lv_iconst (v := 0) hx hb dX1_bodyFor_11 (by decide) ?_
            refine lv_bipush (v := 6) hx hb dX1_bodyFor_12 (by decide) ?_
            refine zc_SN (As := [.int 0, .int 0, .int 6]) (rest := []) ⟨hx, hb, hml, hown, hts⟩ (c_within l D cI cJ cZ cP cS po (0) (0) (6) ) ⟨(va_cnB 3 hts gX1_bodyFor_X7_within_n44 rfl rfl rfl (hN.1 (RX1, 44, yX7_within) (List.mem_of_getElem? (i := 13) rfl)) (hts _ (List.mem_of_getElem? (i := 2) rfl)) dh_X7_within ⟨Nat.le_of_ble_eq_true rfl, Nat.le_of_ble_eq_true rfl⟩), (hts _ (List.mem_of_getElem? (i := 1) rfl)), trivial⟩ hK hN hZ rfl hl.1 rfl (Nat.le_of_ble_eq_true rfl) dX1_bodyFor_14 ⟨Nat.le_of_ble_eq_true rfl, Nat.le_of_ble_eq_true rfl⟩ (fun r_13 hr_13 => ?_)
            rcases hr_13 with ⟨rfl, g_14⟩ | ⟨rfl, g_15, g_16⟩ | ⟨rfl, g_17, g_18⟩
            · exfalso; omega
            · exfalso; omega
            · refine lv_if_eq (tgt := 48) hx hb dX1_bodyFor_17 (by decide) (fun c_19 => ?_) (fun c_19 => ?_)
              · exact absurd c_19 (by decide)
              · refine lv_iload_n hx hb dX1_bodyFor_20 rfl (lv_at hl 1 rfl) ?_
                refine lv_iload_n hx hb dX1_bodyFor_21 rfl (lv_at hl 4 rfl) ?_
                refine zc_S (As := [.int 0, .int 1]) (rest := []) ⟨hx, hb, hml, hown, hts⟩ (c_M_own_0_1 l D cI cJ cZ cP cS po  ) (va_cwS 2 hts gX1_bodyFor_X1_ownBody rfl rfl rfl dh_X1_ownBody ⟨Nat.le_of_ble_eq_true rfl, Nat.le_of_ble_eq_true rfl⟩) hK hN hZ rfl hl.1 rfl (Nat.le_of_ble_eq_true rfl) dX1_bodyFor_22 ⟨Nat.le_of_ble_eq_true rfl, Nat.le_of_ble_eq_true rfl⟩ (fun r_20 hr_20 => ?_)
                obtain rfl := hr_20
                refine lv_istore (lv' := [(4, .int 11), (3, .int 1), (2, .int 0), (0, .int 4), (1, .int 1)]) hx hb dX1_bodyFor_25 hl (by decide) rfl (fun ls hl => ?_)
                refine lv_iload hx hb dX1_bodyFor_27 (lv_at hl 0 rfl) ?_
                refine lv_iconst (v := (-1)) hx hb dX1_bodyFor_29 (by decide) ?_
                refine lv_icmp_eq (tgt := 36) hx hb dX1_bodyFor_30 (by decide) (fun c_21 => ?_) (fun c_21 => ?_)
                · exact absurd c_21 (by decide)
                · refine lv_iload hx hb dX1_bodyFor_33 (lv_at hl 0 rfl) ?_
                  exact W.iret (v := 11) hx hb hr (fun t ht hW => ⟨11, rfl, rfl, ht⟩) (fun q hq => by cases hq) dX1_bodyFor_35
        · exact absurd c_10 (by decide)
set_option maxHeartbeats 4000000 in
set_option maxRecDepth 100000 in
theorem c_M_bodyFor_4_2 (l : Launch) (D : va_G) (cI cJ cZ cP cS : ClassId) (po : zPool)   : Met l yX1_bodyFor wsX1_bodyFor ({ frames := 1, cells := 0, slots := 0, locals := 22 }) (va_Pc [.int 4, .int 2] (zR D (zKT cI cJ cZ cP cS) po [])) (vp_Si (fun r => r = 50)) 0 0 (fun _ => False) := by
  refine Met.ofW (cc := cX1_bodyFor) (maxL := 5) (ret := (some .int)) (by decide) rfl ?_
  intro p e s m args below meth c s₁ B hml hv
  obtain ⟨rfl, hP, hK, hN, hZ⟩ := hv
  have hx := B.exec
  have hb := B.bytes
  have hr := B.returns
  have hts := atoms_spec (ws := wsX1_bodyFor) B.pre
  have hown : s.vm.findClass RX1 = some m.cls := findClass_of_methodNamed B.named
  have hlocks := B.notSynchronized
  have hl := lv_entry ([.int 4, .int 2]) (n := 5) (Nat.le_of_ble_eq_true rfl)
  rw [lg_entry_eq]
  generalize (lg_sl ([.int 4, .int 2]) ++ List.replicate (5 - (lg_sl ([.int 4, .int 2])).length) Slot.unset).toArray = ls at hl ⊢
  replace hl : lv_has ls 5 [(0, .int 4), (1, .int 2)] := hl
  refine lv_iload_n hx hb dX1_bodyFor_0 rfl (lv_at hl 0 rfl) ?_
  refine lv_istore_n (lv' := [(2, .int 4), (0, .int 4), (1, .int 2)]) hx hb dX1_bodyFor_1 rfl hl (by decide) rfl (fun ls hl => ?_)
  refine lv_iconst (v := 0) hx hb dX1_bodyFor_2 (by decide) ?_
  refine lv_istore_n (lv' := [(3, .int 0), (2, .int 4), (0, .int 4), (1, .int 2)]) hx hb dX1_bodyFor_3 rfl hl (by decide) rfl (fun ls hl => ?_)
  refine lv_iload_n hx hb dX1_bodyFor_4 rfl (lv_at hl 0 rfl) ?_
  refine lv_bipush (v := 7) hx hb dX1_bodyFor_5 (by decide) ?_
  refine lv_icmp_ge (tgt := 48) hx hb dX1_bodyFor_7 (by decide) (fun c_1 => ?_) (fun c_1 => ?_)
  · exact absurd c_1 (by decide)
  · refine lv_iload_n hx hb dX1_bodyFor_10 rfl (lv_at hl 1 rfl) ?_
    refine lv_iconst (v := 0) hx hb dX1_bodyFor_11 (by decide) ?_
    refine lv_bipush (v := 6) hx hb dX1_bodyFor_12 (by decide) ?_
    have kc4 : (4 : Int32).toInt = 4 := by decide
    have kc0 : (0 : Int32).toInt = 0 := by decide
    have kc6 : (6 : Int32).toInt = 6 := by decide
    refine zc_SN (As := [.int 4, .int 0, .int 6]) (rest := []) ⟨hx, hb, hml, hown, hts⟩ (c_within l D cI cJ cZ cP cS po (4) (0) (6) ) ⟨(va_cnB 3 hts gX1_bodyFor_X7_within_n44 rfl rfl rfl (hN.1 (RX1, 44, yX7_within) (List.mem_of_getElem? (i := 13) rfl)) (hts _ (List.mem_of_getElem? (i := 2) rfl)) dh_X7_within ⟨Nat.le_of_ble_eq_true rfl, Nat.le_of_ble_eq_true rfl⟩), (hts _ (List.mem_of_getElem? (i := 1) rfl)), trivial⟩ hK hN hZ rfl hl.1 rfl (Nat.le_of_ble_eq_true rfl) dX1_bodyFor_14 ⟨Nat.le_of_ble_eq_true rfl, Nat.le_of_ble_eq_true rfl⟩ (fun r_2 hr_2 => ?_)
    rcases hr_2 with ⟨rfl, g_3⟩ | ⟨rfl, g_4, g_5⟩ | ⟨rfl, g_6, g_7⟩
    · exfalso; omega
    · exfalso; omega
    · refine lv_if_eq (tgt := 48) hx hb dX1_bodyFor_17 (by decide) (fun c_8 => ?_) (fun c_8 => ?_)
      · exact absurd c_8 (by decide)
      · refine lv_iload_n hx hb dX1_bodyFor_20 rfl (lv_at hl 1 rfl) ?_
        refine lv_iload_n hx hb dX1_bodyFor_21 rfl (lv_at hl 3 rfl) ?_
        refine zc_S (As := [.int 4, .int 2]) (rest := []) ⟨hx, hb, hml, hown, hts⟩ (c_M_own_4_2 l D cI cJ cZ cP cS po  ) (va_cwS 2 hts gX1_bodyFor_X1_ownBody rfl rfl rfl dh_X1_ownBody ⟨Nat.le_of_ble_eq_true rfl, Nat.le_of_ble_eq_true rfl⟩) hK hN hZ rfl hl.1 rfl (Nat.le_of_ble_eq_true rfl) dX1_bodyFor_22 ⟨Nat.le_of_ble_eq_true rfl, Nat.le_of_ble_eq_true rfl⟩ (fun r_9 hr_9 => ?_)
        obtain rfl := hr_9
        refine lv_istore (lv' := [(4, .int 50), (3, .int 0), (2, .int 4), (0, .int 4), (1, .int 2)]) hx hb dX1_bodyFor_25 hl (by decide) rfl (fun ls hl => ?_)
        refine lv_iload hx hb dX1_bodyFor_27 (lv_at hl 0 rfl) ?_
        refine lv_iconst (v := (-1)) hx hb dX1_bodyFor_29 (by decide) ?_
        refine lv_icmp_eq (tgt := 36) hx hb dX1_bodyFor_30 (by decide) (fun c_10 => ?_) (fun c_10 => ?_)
        · exact absurd c_10 (by decide)
        · refine lv_iload hx hb dX1_bodyFor_33 (lv_at hl 0 rfl) ?_
          exact W.iret (v := 50) hx hb hr (fun t ht hW => ⟨50, rfl, rfl, ht⟩) (fun q hq => by cases hq) dX1_bodyFor_35
set_option maxHeartbeats 4000000 in
set_option maxRecDepth 100000 in
theorem c_M_bodyFor_5_0 (l : Launch) (D : va_G) (cI cJ cZ cP cS : ClassId) (po : zPool)   : Met l yX1_bodyFor wsX1_bodyFor ({ frames := 1, cells := 0, slots := 0, locals := 22 }) (va_Pc [.int 5, .int 0] (zR D (zKT cI cJ cZ cP cS) po [])) (vp_Si (fun r => r = 10)) 0 0 (fun _ => False) := by
  refine Met.ofW (cc := cX1_bodyFor) (maxL := 5) (ret := (some .int)) (by decide) rfl ?_
  intro p e s m args below meth c s₁ B hml hv
  obtain ⟨rfl, hP, hK, hN, hZ⟩ := hv
  have hx := B.exec
  have hb := B.bytes
  have hr := B.returns
  have hts := atoms_spec (ws := wsX1_bodyFor) B.pre
  have hown : s.vm.findClass RX1 = some m.cls := findClass_of_methodNamed B.named
  have hlocks := B.notSynchronized
  have hl := lv_entry ([.int 5, .int 0]) (n := 5) (Nat.le_of_ble_eq_true rfl)
  rw [lg_entry_eq]
  generalize (lg_sl ([.int 5, .int 0]) ++ List.replicate (5 - (lg_sl ([.int 5, .int 0])).length) Slot.unset).toArray = ls at hl ⊢
  replace hl : lv_has ls 5 [(0, .int 5), (1, .int 0)] := hl
  refine lv_iload_n hx hb dX1_bodyFor_0 rfl (lv_at hl 0 rfl) ?_
  refine lv_istore_n (lv' := [(2, .int 5), (0, .int 5), (1, .int 0)]) hx hb dX1_bodyFor_1 rfl hl (by decide) rfl (fun ls hl => ?_)
  refine lv_iconst (v := 0) hx hb dX1_bodyFor_2 (by decide) ?_
  refine lv_istore_n (lv' := [(3, .int 0), (2, .int 5), (0, .int 5), (1, .int 0)]) hx hb dX1_bodyFor_3 rfl hl (by decide) rfl (fun ls hl => ?_)
  refine lv_iload_n hx hb dX1_bodyFor_4 rfl (lv_at hl 0 rfl) ?_
  refine lv_bipush (v := 7) hx hb dX1_bodyFor_5 (by decide) ?_
  refine lv_icmp_ge (tgt := 48) hx hb dX1_bodyFor_7 (by decide) (fun c_1 => ?_) (fun c_1 => ?_)
  · exact absurd c_1 (by decide)
  · refine lv_iload_n hx hb dX1_bodyFor_10 rfl (lv_at hl 1 rfl) ?_
    refine lv_iconst (v := 0) hx hb dX1_bodyFor_11 (by decide) ?_
    refine lv_bipush (v := 6) hx hb dX1_bodyFor_12 (by decide) ?_
    have kc5 : (5 : Int32).toInt = 5 := by decide
    have kc0 : (0 : Int32).toInt = 0 := by decide
    have kc6 : (6 : Int32).toInt = 6 := by decide
    refine zc_SN (As := [.int 5, .int 0, .int 6]) (rest := []) ⟨hx, hb, hml, hown, hts⟩ (c_within l D cI cJ cZ cP cS po (5) (0) (6) ) ⟨(va_cnB 3 hts gX1_bodyFor_X7_within_n44 rfl rfl rfl (hN.1 (RX1, 44, yX7_within) (List.mem_of_getElem? (i := 13) rfl)) (hts _ (List.mem_of_getElem? (i := 2) rfl)) dh_X7_within ⟨Nat.le_of_ble_eq_true rfl, Nat.le_of_ble_eq_true rfl⟩), (hts _ (List.mem_of_getElem? (i := 1) rfl)), trivial⟩ hK hN hZ rfl hl.1 rfl (Nat.le_of_ble_eq_true rfl) dX1_bodyFor_14 ⟨Nat.le_of_ble_eq_true rfl, Nat.le_of_ble_eq_true rfl⟩ (fun r_2 hr_2 => ?_)
    rcases hr_2 with ⟨rfl, g_3⟩ | ⟨rfl, g_4, g_5⟩ | ⟨rfl, g_6, g_7⟩
    · exfalso; omega
    · exfalso; omega
    · refine lv_if_eq (tgt := 48) hx hb dX1_bodyFor_17 (by decide) (fun c_8 => ?_) (fun c_8 => ?_)
      · exact absurd c_8 (by decide)
      · refine lv_iload_n hx hb dX1_bodyFor_20 rfl (lv_at hl 1 rfl) ?_
        refine lv_iload_n hx hb dX1_bodyFor_21 rfl (lv_at hl 3 rfl) ?_
        refine zc_S (As := [.int 5, .int 0]) (rest := []) ⟨hx, hb, hml, hown, hts⟩ (c_M_own_5_0 l D cI cJ cZ cP cS po  ) (va_cwS 2 hts gX1_bodyFor_X1_ownBody rfl rfl rfl dh_X1_ownBody ⟨Nat.le_of_ble_eq_true rfl, Nat.le_of_ble_eq_true rfl⟩) hK hN hZ rfl hl.1 rfl (Nat.le_of_ble_eq_true rfl) dX1_bodyFor_22 ⟨Nat.le_of_ble_eq_true rfl, Nat.le_of_ble_eq_true rfl⟩ (fun r_9 hr_9 => ?_)
        obtain rfl := hr_9
        refine lv_istore (lv' := [(4, .int (-1)), (3, .int 0), (2, .int 5), (0, .int 5), (1, .int 0)]) hx hb dX1_bodyFor_25 hl (by decide) rfl (fun ls hl => ?_)
        refine lv_iload hx hb dX1_bodyFor_27 (lv_at hl 0 rfl) ?_
        refine lv_iconst (v := (-1)) hx hb dX1_bodyFor_29 (by decide) ?_
        refine lv_icmp_eq (tgt := 36) hx hb dX1_bodyFor_30 (by decide) (fun c_10 => ?_) (fun c_10 => ?_)
        · obtain ⟨t_11, zt_11, yt_11⟩ := hZ.1.2
          refine va_getsN hx hb zt_11 va_S.rf hown (va_Nw.use rfl (hN.2.1 (RX1, 58) (List.mem_of_getElem? (i := 1) rfl))) (fun _ h9 => h9) dX1_bodyFor_36 ?_
          refine lv_iload_n hx hb dX1_bodyFor_39 rfl (lv_at hl 2 rfl) ?_
          refine va_ti hx hb yt_11 va_S.rf (zf_in (by decide) (by decide)) (v := .int 2) (by decide) dX1_bodyFor_40 ?_
          refine lv_istore_n (lv' := [(2, .int 2), (4, .int (-1)), (3, .int 0), (0, .int 5), (1, .int 0)]) hx hb dX1_bodyFor_41 rfl hl (by decide) rfl (fun ls hl => ?_)
          refine lv_iinc (v := 1) (lv' := [(3, .int 1), (2, .int 2), (4, .int (-1)), (0, .int 5), (1, .int 0)]) hx hb dX1_bodyFor_42 hl (k := 2) rfl (by decide) (by decide) rfl (fun ls hl => ?_)
          refine lv_goto (tgt := 4) hx hb dX1_bodyFor_45 (by decide) ?_
          refine lv_iload_n hx hb dX1_bodyFor_4 rfl (lv_at hl 0 rfl) ?_
          refine lv_bipush (v := 7) hx hb dX1_bodyFor_5 (by decide) ?_
          refine lv_icmp_ge (tgt := 48) hx hb dX1_bodyFor_7 (by decide) (fun c_12 => ?_) (fun c_12 => ?_)
          · exact absurd c_12 (by decide)
          · refine lv_iload_n hx hb dX1_bodyFor_10 rfl (lv_at hl 1 rfl) ?_
            refine lv_iconst (v := 0) hx hb dX1_bodyFor_11 (by decide) ?_
            refine lv_bipush (v := 6) hx hb dX1_bodyFor_12 (by decide) ?_
            have kc2 : (2 : Int32).toInt = 2 := by decide
            refine zc_SN (As := [.int 2, .int 0, .int 6]) (rest := []) ⟨hx, hb, hml, hown, hts⟩ (c_within l D cI cJ cZ cP cS po (2) (0) (6) ) ⟨(va_cnB 3 hts gX1_bodyFor_X7_within_n44 rfl rfl rfl (hN.1 (RX1, 44, yX7_within) (List.mem_of_getElem? (i := 13) rfl)) (hts _ (List.mem_of_getElem? (i := 2) rfl)) dh_X7_within ⟨Nat.le_of_ble_eq_true rfl, Nat.le_of_ble_eq_true rfl⟩), (hts _ (List.mem_of_getElem? (i := 1) rfl)), trivial⟩ hK hN hZ rfl hl.1 rfl (Nat.le_of_ble_eq_true rfl) dX1_bodyFor_14 ⟨Nat.le_of_ble_eq_true rfl, Nat.le_of_ble_eq_true rfl⟩ (fun r_13 hr_13 => ?_)
            rcases hr_13 with ⟨rfl, g_14⟩ | ⟨rfl, g_15, g_16⟩ | ⟨rfl, g_17, g_18⟩
            · exfalso; omega
            · exfalso; omega
            · refine lv_if_eq (tgt := 48) hx hb dX1_bodyFor_17 (by decide) (fun c_19 => ?_) (fun c_19 => ?_)
              · exact absurd c_19 (by decide)
              · refine lv_iload_n hx hb dX1_bodyFor_20 rfl (lv_at hl 1 rfl) ?_
                refine lv_iload_n hx hb dX1_bodyFor_21 rfl (lv_at hl 4 rfl) ?_
                refine zc_S (As := [.int 2, .int 0]) (rest := []) ⟨hx, hb, hml, hown, hts⟩ (c_M_own_2_0 l D cI cJ cZ cP cS po  ) (va_cwS 2 hts gX1_bodyFor_X1_ownBody rfl rfl rfl dh_X1_ownBody ⟨Nat.le_of_ble_eq_true rfl, Nat.le_of_ble_eq_true rfl⟩) hK hN hZ rfl hl.1 rfl (Nat.le_of_ble_eq_true rfl) dX1_bodyFor_22 ⟨Nat.le_of_ble_eq_true rfl, Nat.le_of_ble_eq_true rfl⟩ (fun r_20 hr_20 => ?_)
                obtain rfl := hr_20
                refine lv_istore (lv' := [(4, .int (-1)), (3, .int 1), (2, .int 2), (0, .int 5), (1, .int 0)]) hx hb dX1_bodyFor_25 hl (by decide) rfl (fun ls hl => ?_)
                refine lv_iload hx hb dX1_bodyFor_27 (lv_at hl 0 rfl) ?_
                refine lv_iconst (v := (-1)) hx hb dX1_bodyFor_29 (by decide) ?_
                refine lv_icmp_eq (tgt := 36) hx hb dX1_bodyFor_30 (by decide) (fun c_21 => ?_) (fun c_21 => ?_)
                · obtain ⟨t_22, zt_22, yt_22⟩ := hZ.1.2
                  refine va_getsN hx hb zt_22 va_S.rf hown (va_Nw.use rfl (hN.2.1 (RX1, 58) (List.mem_of_getElem? (i := 1) rfl))) (fun _ h9 => h9) dX1_bodyFor_36 ?_
                  refine lv_iload_n hx hb dX1_bodyFor_39 rfl (lv_at hl 2 rfl) ?_
                  refine va_ti hx hb yt_22 va_S.rf (zf_in (by decide) (by decide)) (v := .int 0) (by decide) dX1_bodyFor_40 ?_
                  refine lv_istore_n (lv' := [(2, .int 0), (4, .int (-1)), (3, .int 1), (0, .int 5), (1, .int 0)]) hx hb dX1_bodyFor_41 rfl hl (by decide) rfl (fun ls hl => ?_)
                  refine lv_iinc (v := 2) (lv' := [(3, .int 2), (2, .int 0), (4, .int (-1)), (0, .int 5), (1, .int 0)]) hx hb dX1_bodyFor_42 hl (k := 2) rfl (by decide) (by decide) rfl (fun ls hl => ?_)
                  refine lv_goto (tgt := 4) hx hb dX1_bodyFor_45 (by decide) ?_
                  refine lv_iload_n hx hb dX1_bodyFor_4 rfl (lv_at hl 0 rfl) ?_
                  refine lv_bipush (v := 7) hx hb dX1_bodyFor_5 (by decide) ?_
                  refine lv_icmp_ge (tgt := 48) hx hb dX1_bodyFor_7 (by decide) (fun c_23 => ?_) (fun c_23 => ?_)
                  · exact absurd c_23 (by decide)
                  · refine lv_iload_n hx hb dX1_bodyFor_10 rfl (lv_at hl 1 rfl) ?_
                    refine lv_iconst (v := 0) hx hb dX1_bodyFor_11 (by decide) ?_
                    refine lv_bipush (v := 6) hx hb dX1_bodyFor_12 (by decide) ?_
                    refine zc_SN (As := [.int 0, .int 0, .int 6]) (rest := []) ⟨hx, hb, hml, hown, hts⟩ (c_within l D cI cJ cZ cP cS po (0) (0) (6) ) ⟨(va_cnB 3 hts gX1_bodyFor_X7_within_n44 rfl rfl rfl (hN.1 (RX1, 44, yX7_within) (List.mem_of_getElem? (i := 13) rfl)) (hts _ (List.mem_of_getElem? (i := 2) rfl)) dh_X7_within ⟨Nat.le_of_ble_eq_true rfl, Nat.le_of_ble_eq_true rfl⟩), (hts _ (List.mem_of_getElem? (i := 1) rfl)), trivial⟩ hK hN hZ rfl hl.1 rfl (Nat.le_of_ble_eq_true rfl) dX1_bodyFor_14 ⟨Nat.le_of_ble_eq_true rfl, Nat.le_of_ble_eq_true rfl⟩ (fun r_24 hr_24 => ?_)
                    rcases hr_24 with ⟨rfl, g_25⟩ | ⟨rfl, g_26, g_27⟩ | ⟨rfl, g_28, g_29⟩
                    · exfalso; omega
                    · exfalso; omega
                    · refine lv_if_eq (tgt := 48) hx hb dX1_bodyFor_17 (by decide) (fun c_30 => ?_) (fun c_30 => ?_)
                      · exact absurd c_30 (by decide)
                      · refine lv_iload_n hx hb dX1_bodyFor_20 rfl (lv_at hl 1 rfl) ?_
                        refine lv_iload_n hx hb dX1_bodyFor_21 rfl (lv_at hl 4 rfl) ?_
                        refine zc_S (As := [.int 0, .int 0]) (rest := []) ⟨hx, hb, hml, hown, hts⟩ (c_M_own_0_0 l D cI cJ cZ cP cS po  ) (va_cwS 2 hts gX1_bodyFor_X1_ownBody rfl rfl rfl dh_X1_ownBody ⟨Nat.le_of_ble_eq_true rfl, Nat.le_of_ble_eq_true rfl⟩) hK hN hZ rfl hl.1 rfl (Nat.le_of_ble_eq_true rfl) dX1_bodyFor_22 ⟨Nat.le_of_ble_eq_true rfl, Nat.le_of_ble_eq_true rfl⟩ (fun r_31 hr_31 => ?_)
                        obtain rfl := hr_31
                        refine lv_istore (lv' := [(4, .int 10), (3, .int 2), (2, .int 0), (0, .int 5), (1, .int 0)]) hx hb dX1_bodyFor_25 hl (by decide) rfl (fun ls hl => ?_)
                        refine lv_iload hx hb dX1_bodyFor_27 (lv_at hl 0 rfl) ?_
                        refine lv_iconst (v := (-1)) hx hb dX1_bodyFor_29 (by decide) ?_
                        refine lv_icmp_eq (tgt := 36) hx hb dX1_bodyFor_30 (by decide) (fun c_32 => ?_) (fun c_32 => ?_)
                        · exact absurd c_32 (by decide)
                        · refine lv_iload hx hb dX1_bodyFor_33 (lv_at hl 0 rfl) ?_
                          exact W.iret (v := 10) hx hb hr (fun t ht hW => ⟨10, rfl, rfl, ht⟩) (fun q hq => by cases hq) dX1_bodyFor_35
                · exact absurd c_21 (by decide)
        · exact absurd c_10 (by decide)
set_option maxHeartbeats 4000000 in
set_option maxRecDepth 100000 in
theorem c_M_bodyFor_5_1 (l : Launch) (D : va_G) (cI cJ cZ cP cS : ClassId) (po : zPool)   : Met l yX1_bodyFor wsX1_bodyFor ({ frames := 1, cells := 0, slots := 0, locals := 22 }) (va_Pc [.int 5, .int 1] (zR D (zKT cI cJ cZ cP cS) po [])) (vp_Si (fun r => r = 30)) 0 0 (fun _ => False) := by
  refine Met.ofW (cc := cX1_bodyFor) (maxL := 5) (ret := (some .int)) (by decide) rfl ?_
  intro p e s m args below meth c s₁ B hml hv
  obtain ⟨rfl, hP, hK, hN, hZ⟩ := hv
  have hx := B.exec
  have hb := B.bytes
  have hr := B.returns
  have hts := atoms_spec (ws := wsX1_bodyFor) B.pre
  have hown : s.vm.findClass RX1 = some m.cls := findClass_of_methodNamed B.named
  have hlocks := B.notSynchronized
  have hl := lv_entry ([.int 5, .int 1]) (n := 5) (Nat.le_of_ble_eq_true rfl)
  rw [lg_entry_eq]
  generalize (lg_sl ([.int 5, .int 1]) ++ List.replicate (5 - (lg_sl ([.int 5, .int 1])).length) Slot.unset).toArray = ls at hl ⊢
  replace hl : lv_has ls 5 [(0, .int 5), (1, .int 1)] := hl
  refine lv_iload_n hx hb dX1_bodyFor_0 rfl (lv_at hl 0 rfl) ?_
  refine lv_istore_n (lv' := [(2, .int 5), (0, .int 5), (1, .int 1)]) hx hb dX1_bodyFor_1 rfl hl (by decide) rfl (fun ls hl => ?_)
  refine lv_iconst (v := 0) hx hb dX1_bodyFor_2 (by decide) ?_
  refine lv_istore_n (lv' := [(3, .int 0), (2, .int 5), (0, .int 5), (1, .int 1)]) hx hb dX1_bodyFor_3 rfl hl (by decide) rfl (fun ls hl => ?_)
  refine lv_iload_n hx hb dX1_bodyFor_4 rfl (lv_at hl 0 rfl) ?_
  refine lv_bipush (v := 7) hx hb dX1_bodyFor_5 (by decide) ?_
  refine lv_icmp_ge (tgt := 48) hx hb dX1_bodyFor_7 (by decide) (fun c_1 => ?_) (fun c_1 => ?_)
  · exact absurd c_1 (by decide)
  · refine lv_iload_n hx hb dX1_bodyFor_10 rfl (lv_at hl 1 rfl) ?_
    refine lv_iconst (v := 0) hx hb dX1_bodyFor_11 (by decide) ?_
    refine lv_bipush (v := 6) hx hb dX1_bodyFor_12 (by decide) ?_
    have kc5 : (5 : Int32).toInt = 5 := by decide
    have kc0 : (0 : Int32).toInt = 0 := by decide
    have kc6 : (6 : Int32).toInt = 6 := by decide
    refine zc_SN (As := [.int 5, .int 0, .int 6]) (rest := []) ⟨hx, hb, hml, hown, hts⟩ (c_within l D cI cJ cZ cP cS po (5) (0) (6) ) ⟨(va_cnB 3 hts gX1_bodyFor_X7_within_n44 rfl rfl rfl (hN.1 (RX1, 44, yX7_within) (List.mem_of_getElem? (i := 13) rfl)) (hts _ (List.mem_of_getElem? (i := 2) rfl)) dh_X7_within ⟨Nat.le_of_ble_eq_true rfl, Nat.le_of_ble_eq_true rfl⟩), (hts _ (List.mem_of_getElem? (i := 1) rfl)), trivial⟩ hK hN hZ rfl hl.1 rfl (Nat.le_of_ble_eq_true rfl) dX1_bodyFor_14 ⟨Nat.le_of_ble_eq_true rfl, Nat.le_of_ble_eq_true rfl⟩ (fun r_2 hr_2 => ?_)
    rcases hr_2 with ⟨rfl, g_3⟩ | ⟨rfl, g_4, g_5⟩ | ⟨rfl, g_6, g_7⟩
    · exfalso; omega
    · exfalso; omega
    · refine lv_if_eq (tgt := 48) hx hb dX1_bodyFor_17 (by decide) (fun c_8 => ?_) (fun c_8 => ?_)
      · exact absurd c_8 (by decide)
      · refine lv_iload_n hx hb dX1_bodyFor_20 rfl (lv_at hl 1 rfl) ?_
        refine lv_iload_n hx hb dX1_bodyFor_21 rfl (lv_at hl 3 rfl) ?_
        refine zc_S (As := [.int 5, .int 1]) (rest := []) ⟨hx, hb, hml, hown, hts⟩ (c_M_own_5_1 l D cI cJ cZ cP cS po  ) (va_cwS 2 hts gX1_bodyFor_X1_ownBody rfl rfl rfl dh_X1_ownBody ⟨Nat.le_of_ble_eq_true rfl, Nat.le_of_ble_eq_true rfl⟩) hK hN hZ rfl hl.1 rfl (Nat.le_of_ble_eq_true rfl) dX1_bodyFor_22 ⟨Nat.le_of_ble_eq_true rfl, Nat.le_of_ble_eq_true rfl⟩ (fun r_9 hr_9 => ?_)
        obtain rfl := hr_9
        refine lv_istore (lv' := [(4, .int (-1)), (3, .int 0), (2, .int 5), (0, .int 5), (1, .int 1)]) hx hb dX1_bodyFor_25 hl (by decide) rfl (fun ls hl => ?_)
        refine lv_iload hx hb dX1_bodyFor_27 (lv_at hl 0 rfl) ?_
        refine lv_iconst (v := (-1)) hx hb dX1_bodyFor_29 (by decide) ?_
        refine lv_icmp_eq (tgt := 36) hx hb dX1_bodyFor_30 (by decide) (fun c_10 => ?_) (fun c_10 => ?_)
        · obtain ⟨t_11, zt_11, yt_11⟩ := hZ.1.2
          refine va_getsN hx hb zt_11 va_S.rf hown (va_Nw.use rfl (hN.2.1 (RX1, 58) (List.mem_of_getElem? (i := 1) rfl))) (fun _ h9 => h9) dX1_bodyFor_36 ?_
          refine lv_iload_n hx hb dX1_bodyFor_39 rfl (lv_at hl 2 rfl) ?_
          refine va_ti hx hb yt_11 va_S.rf (zf_in (by decide) (by decide)) (v := .int 2) (by decide) dX1_bodyFor_40 ?_
          refine lv_istore_n (lv' := [(2, .int 2), (4, .int (-1)), (3, .int 0), (0, .int 5), (1, .int 1)]) hx hb dX1_bodyFor_41 rfl hl (by decide) rfl (fun ls hl => ?_)
          refine lv_iinc (v := 1) (lv' := [(3, .int 1), (2, .int 2), (4, .int (-1)), (0, .int 5), (1, .int 1)]) hx hb dX1_bodyFor_42 hl (k := 2) rfl (by decide) (by decide) rfl (fun ls hl => ?_)
          refine lv_goto (tgt := 4) hx hb dX1_bodyFor_45 (by decide) ?_
          refine lv_iload_n hx hb dX1_bodyFor_4 rfl (lv_at hl 0 rfl) ?_
          refine lv_bipush (v := 7) hx hb dX1_bodyFor_5 (by decide) ?_
          refine lv_icmp_ge (tgt := 48) hx hb dX1_bodyFor_7 (by decide) (fun c_12 => ?_) (fun c_12 => ?_)
          · exact absurd c_12 (by decide)
          · refine lv_iload_n hx hb dX1_bodyFor_10 rfl (lv_at hl 1 rfl) ?_
            refine lv_iconst (v := 0) hx hb dX1_bodyFor_11 (by decide) ?_
            refine lv_bipush (v := 6) hx hb dX1_bodyFor_12 (by decide) ?_
            have kc2 : (2 : Int32).toInt = 2 := by decide
            refine zc_SN (As := [.int 2, .int 0, .int 6]) (rest := []) ⟨hx, hb, hml, hown, hts⟩ (c_within l D cI cJ cZ cP cS po (2) (0) (6) ) ⟨(va_cnB 3 hts gX1_bodyFor_X7_within_n44 rfl rfl rfl (hN.1 (RX1, 44, yX7_within) (List.mem_of_getElem? (i := 13) rfl)) (hts _ (List.mem_of_getElem? (i := 2) rfl)) dh_X7_within ⟨Nat.le_of_ble_eq_true rfl, Nat.le_of_ble_eq_true rfl⟩), (hts _ (List.mem_of_getElem? (i := 1) rfl)), trivial⟩ hK hN hZ rfl hl.1 rfl (Nat.le_of_ble_eq_true rfl) dX1_bodyFor_14 ⟨Nat.le_of_ble_eq_true rfl, Nat.le_of_ble_eq_true rfl⟩ (fun r_13 hr_13 => ?_)
            rcases hr_13 with ⟨rfl, g_14⟩ | ⟨rfl, g_15, g_16⟩ | ⟨rfl, g_17, g_18⟩
            · exfalso; omega
            · exfalso; omega
            · refine lv_if_eq (tgt := 48) hx hb dX1_bodyFor_17 (by decide) (fun c_19 => ?_) (fun c_19 => ?_)
              · exact absurd c_19 (by decide)
              · refine lv_iload_n hx hb dX1_bodyFor_20 rfl (lv_at hl 1 rfl) ?_
                refine lv_iload_n hx hb dX1_bodyFor_21 rfl (lv_at hl 4 rfl) ?_
                refine zc_S (As := [.int 2, .int 1]) (rest := []) ⟨hx, hb, hml, hown, hts⟩ (c_M_own_2_1 l D cI cJ cZ cP cS po  ) (va_cwS 2 hts gX1_bodyFor_X1_ownBody rfl rfl rfl dh_X1_ownBody ⟨Nat.le_of_ble_eq_true rfl, Nat.le_of_ble_eq_true rfl⟩) hK hN hZ rfl hl.1 rfl (Nat.le_of_ble_eq_true rfl) dX1_bodyFor_22 ⟨Nat.le_of_ble_eq_true rfl, Nat.le_of_ble_eq_true rfl⟩ (fun r_20 hr_20 => ?_)
                obtain rfl := hr_20
                refine lv_istore (lv' := [(4, .int 30), (3, .int 1), (2, .int 2), (0, .int 5), (1, .int 1)]) hx hb dX1_bodyFor_25 hl (by decide) rfl (fun ls hl => ?_)
                refine lv_iload hx hb dX1_bodyFor_27 (lv_at hl 0 rfl) ?_
                refine lv_iconst (v := (-1)) hx hb dX1_bodyFor_29 (by decide) ?_
                refine lv_icmp_eq (tgt := 36) hx hb dX1_bodyFor_30 (by decide) (fun c_21 => ?_) (fun c_21 => ?_)
                · exact absurd c_21 (by decide)
                · refine lv_iload hx hb dX1_bodyFor_33 (lv_at hl 0 rfl) ?_
                  exact W.iret (v := 30) hx hb hr (fun t ht hW => ⟨30, rfl, rfl, ht⟩) (fun q hq => by cases hq) dX1_bodyFor_35
        · exact absurd c_10 (by decide)
set_option maxHeartbeats 4000000 in
set_option maxRecDepth 100000 in
theorem c_M_bodyFor_5_2 (l : Launch) (D : va_G) (cI cJ cZ cP cS : ClassId) (po : zPool)   : Met l yX1_bodyFor wsX1_bodyFor ({ frames := 1, cells := 0, slots := 0, locals := 22 }) (va_Pc [.int 5, .int 2] (zR D (zKT cI cJ cZ cP cS) po [])) (vp_Si (fun r => r = 60)) 0 0 (fun _ => False) := by
  refine Met.ofW (cc := cX1_bodyFor) (maxL := 5) (ret := (some .int)) (by decide) rfl ?_
  intro p e s m args below meth c s₁ B hml hv
  obtain ⟨rfl, hP, hK, hN, hZ⟩ := hv
  have hx := B.exec
  have hb := B.bytes
  have hr := B.returns
  have hts := atoms_spec (ws := wsX1_bodyFor) B.pre
  have hown : s.vm.findClass RX1 = some m.cls := findClass_of_methodNamed B.named
  have hlocks := B.notSynchronized
  have hl := lv_entry ([.int 5, .int 2]) (n := 5) (Nat.le_of_ble_eq_true rfl)
  rw [lg_entry_eq]
  generalize (lg_sl ([.int 5, .int 2]) ++ List.replicate (5 - (lg_sl ([.int 5, .int 2])).length) Slot.unset).toArray = ls at hl ⊢
  replace hl : lv_has ls 5 [(0, .int 5), (1, .int 2)] := hl
  refine lv_iload_n hx hb dX1_bodyFor_0 rfl (lv_at hl 0 rfl) ?_
  refine lv_istore_n (lv' := [(2, .int 5), (0, .int 5), (1, .int 2)]) hx hb dX1_bodyFor_1 rfl hl (by decide) rfl (fun ls hl => ?_)
  refine lv_iconst (v := 0) hx hb dX1_bodyFor_2 (by decide) ?_
  refine lv_istore_n (lv' := [(3, .int 0), (2, .int 5), (0, .int 5), (1, .int 2)]) hx hb dX1_bodyFor_3 rfl hl (by decide) rfl (fun ls hl => ?_)
  refine lv_iload_n hx hb dX1_bodyFor_4 rfl (lv_at hl 0 rfl) ?_
  refine lv_bipush (v := 7) hx hb dX1_bodyFor_5 (by decide) ?_
  refine lv_icmp_ge (tgt := 48) hx hb dX1_bodyFor_7 (by decide) (fun c_1 => ?_) (fun c_1 => ?_)
  · exact absurd c_1 (by decide)
  · refine lv_iload_n hx hb dX1_bodyFor_10 rfl (lv_at hl 1 rfl) ?_
    refine lv_iconst (v := 0) hx hb dX1_bodyFor_11 (by decide) ?_
    refine lv_bipush (v := 6) hx hb dX1_bodyFor_12 (by decide) ?_
    have kc5 : (5 : Int32).toInt = 5 := by decide
    have kc0 : (0 : Int32).toInt = 0 := by decide
    have kc6 : (6 : Int32).toInt = 6 := by decide
    refine zc_SN (As := [.int 5, .int 0, .int 6]) (rest := []) ⟨hx, hb, hml, hown, hts⟩ (c_within l D cI cJ cZ cP cS po (5) (0) (6) ) ⟨(va_cnB 3 hts gX1_bodyFor_X7_within_n44 rfl rfl rfl (hN.1 (RX1, 44, yX7_within) (List.mem_of_getElem? (i := 13) rfl)) (hts _ (List.mem_of_getElem? (i := 2) rfl)) dh_X7_within ⟨Nat.le_of_ble_eq_true rfl, Nat.le_of_ble_eq_true rfl⟩), (hts _ (List.mem_of_getElem? (i := 1) rfl)), trivial⟩ hK hN hZ rfl hl.1 rfl (Nat.le_of_ble_eq_true rfl) dX1_bodyFor_14 ⟨Nat.le_of_ble_eq_true rfl, Nat.le_of_ble_eq_true rfl⟩ (fun r_2 hr_2 => ?_)
    rcases hr_2 with ⟨rfl, g_3⟩ | ⟨rfl, g_4, g_5⟩ | ⟨rfl, g_6, g_7⟩
    · exfalso; omega
    · exfalso; omega
    · refine lv_if_eq (tgt := 48) hx hb dX1_bodyFor_17 (by decide) (fun c_8 => ?_) (fun c_8 => ?_)
      · exact absurd c_8 (by decide)
      · refine lv_iload_n hx hb dX1_bodyFor_20 rfl (lv_at hl 1 rfl) ?_
        refine lv_iload_n hx hb dX1_bodyFor_21 rfl (lv_at hl 3 rfl) ?_
        refine zc_S (As := [.int 5, .int 2]) (rest := []) ⟨hx, hb, hml, hown, hts⟩ (c_M_own_5_2 l D cI cJ cZ cP cS po  ) (va_cwS 2 hts gX1_bodyFor_X1_ownBody rfl rfl rfl dh_X1_ownBody ⟨Nat.le_of_ble_eq_true rfl, Nat.le_of_ble_eq_true rfl⟩) hK hN hZ rfl hl.1 rfl (Nat.le_of_ble_eq_true rfl) dX1_bodyFor_22 ⟨Nat.le_of_ble_eq_true rfl, Nat.le_of_ble_eq_true rfl⟩ (fun r_9 hr_9 => ?_)
        obtain rfl := hr_9
        refine lv_istore (lv' := [(4, .int 60), (3, .int 0), (2, .int 5), (0, .int 5), (1, .int 2)]) hx hb dX1_bodyFor_25 hl (by decide) rfl (fun ls hl => ?_)
        refine lv_iload hx hb dX1_bodyFor_27 (lv_at hl 0 rfl) ?_
        refine lv_iconst (v := (-1)) hx hb dX1_bodyFor_29 (by decide) ?_
        refine lv_icmp_eq (tgt := 36) hx hb dX1_bodyFor_30 (by decide) (fun c_10 => ?_) (fun c_10 => ?_)
        · exact absurd c_10 (by decide)
        · refine lv_iload hx hb dX1_bodyFor_33 (lv_at hl 0 rfl) ?_
          exact W.iret (v := 60) hx hb hr (fun t ht hW => ⟨60, rfl, rfl, ht⟩) (fun q hq => by cases hq) dX1_bodyFor_35
set_option maxHeartbeats 4000000 in
set_option maxRecDepth 100000 in
theorem c_M_bodyFor_6_0 (l : Launch) (D : va_G) (cI cJ cZ cP cS : ClassId) (po : zPool)   : Met l yX1_bodyFor wsX1_bodyFor ({ frames := 1, cells := 0, slots := 0, locals := 22 }) (va_Pc [.int 6, .int 0] (zR D (zKT cI cJ cZ cP cS) po [])) (vp_Si (fun r => r = 70)) 0 0 (fun _ => False) := by
  refine Met.ofW (cc := cX1_bodyFor) (maxL := 5) (ret := (some .int)) (by decide) rfl ?_
  intro p e s m args below meth c s₁ B hml hv
  obtain ⟨rfl, hP, hK, hN, hZ⟩ := hv
  have hx := B.exec
  have hb := B.bytes
  have hr := B.returns
  have hts := atoms_spec (ws := wsX1_bodyFor) B.pre
  have hown : s.vm.findClass RX1 = some m.cls := findClass_of_methodNamed B.named
  have hlocks := B.notSynchronized
  have hl := lv_entry ([.int 6, .int 0]) (n := 5) (Nat.le_of_ble_eq_true rfl)
  rw [lg_entry_eq]
  generalize (lg_sl ([.int 6, .int 0]) ++ List.replicate (5 - (lg_sl ([.int 6, .int 0])).length) Slot.unset).toArray = ls at hl ⊢
  replace hl : lv_has ls 5 [(0, .int 6), (1, .int 0)] := hl
  refine lv_iload_n hx hb dX1_bodyFor_0 rfl (lv_at hl 0 rfl) ?_
  refine lv_istore_n (lv' := [(2, .int 6), (0, .int 6), (1, .int 0)]) hx hb dX1_bodyFor_1 rfl hl (by decide) rfl (fun ls hl => ?_)
  refine lv_iconst (v := 0) hx hb dX1_bodyFor_2 (by decide) ?_
  refine lv_istore_n (lv' := [(3, .int 0), (2, .int 6), (0, .int 6), (1, .int 0)]) hx hb dX1_bodyFor_3 rfl hl (by decide) rfl (fun ls hl => ?_)
  refine lv_iload_n hx hb dX1_bodyFor_4 rfl (lv_at hl 0 rfl) ?_
  refine lv_bipush (v := 7) hx hb dX1_bodyFor_5 (by decide) ?_
  refine lv_icmp_ge (tgt := 48) hx hb dX1_bodyFor_7 (by decide) (fun c_1 => ?_) (fun c_1 => ?_)
  · exact absurd c_1 (by decide)
  · refine lv_iload_n hx hb dX1_bodyFor_10 rfl (lv_at hl 1 rfl) ?_
    refine lv_iconst (v := 0) hx hb dX1_bodyFor_11 (by decide) ?_
    refine lv_bipush (v := 6) hx hb dX1_bodyFor_12 (by decide) ?_
    have kc6 : (6 : Int32).toInt = 6 := by decide
    have kc0 : (0 : Int32).toInt = 0 := by decide
    refine zc_SN (As := [.int 6, .int 0, .int 6]) (rest := []) ⟨hx, hb, hml, hown, hts⟩ (c_within l D cI cJ cZ cP cS po (6) (0) (6) ) ⟨(va_cnB 3 hts gX1_bodyFor_X7_within_n44 rfl rfl rfl (hN.1 (RX1, 44, yX7_within) (List.mem_of_getElem? (i := 13) rfl)) (hts _ (List.mem_of_getElem? (i := 2) rfl)) dh_X7_within ⟨Nat.le_of_ble_eq_true rfl, Nat.le_of_ble_eq_true rfl⟩), (hts _ (List.mem_of_getElem? (i := 1) rfl)), trivial⟩ hK hN hZ rfl hl.1 rfl (Nat.le_of_ble_eq_true rfl) dX1_bodyFor_14 ⟨Nat.le_of_ble_eq_true rfl, Nat.le_of_ble_eq_true rfl⟩ (fun r_2 hr_2 => ?_)
    rcases hr_2 with ⟨rfl, g_3⟩ | ⟨rfl, g_4, g_5⟩ | ⟨rfl, g_6, g_7⟩
    · exfalso; omega
    · exfalso; omega
    · refine lv_if_eq (tgt := 48) hx hb dX1_bodyFor_17 (by decide) (fun c_8 => ?_) (fun c_8 => ?_)
      · exact absurd c_8 (by decide)
      · refine lv_iload_n hx hb dX1_bodyFor_20 rfl (lv_at hl 1 rfl) ?_
        refine lv_iload_n hx hb dX1_bodyFor_21 rfl (lv_at hl 3 rfl) ?_
        refine zc_S (As := [.int 6, .int 0]) (rest := []) ⟨hx, hb, hml, hown, hts⟩ (c_M_own_6_0 l D cI cJ cZ cP cS po  ) (va_cwS 2 hts gX1_bodyFor_X1_ownBody rfl rfl rfl dh_X1_ownBody ⟨Nat.le_of_ble_eq_true rfl, Nat.le_of_ble_eq_true rfl⟩) hK hN hZ rfl hl.1 rfl (Nat.le_of_ble_eq_true rfl) dX1_bodyFor_22 ⟨Nat.le_of_ble_eq_true rfl, Nat.le_of_ble_eq_true rfl⟩ (fun r_9 hr_9 => ?_)
        obtain rfl := hr_9
        refine lv_istore (lv' := [(4, .int 70), (3, .int 0), (2, .int 6), (0, .int 6), (1, .int 0)]) hx hb dX1_bodyFor_25 hl (by decide) rfl (fun ls hl => ?_)
        refine lv_iload hx hb dX1_bodyFor_27 (lv_at hl 0 rfl) ?_
        refine lv_iconst (v := (-1)) hx hb dX1_bodyFor_29 (by decide) ?_
        refine lv_icmp_eq (tgt := 36) hx hb dX1_bodyFor_30 (by decide) (fun c_10 => ?_) (fun c_10 => ?_)
        · exact absurd c_10 (by decide)
        · refine lv_iload hx hb dX1_bodyFor_33 (lv_at hl 0 rfl) ?_
          exact W.iret (v := 70) hx hb hr (fun t ht hW => ⟨70, rfl, rfl, ht⟩) (fun q hq => by cases hq) dX1_bodyFor_35
set_option maxHeartbeats 4000000 in
set_option maxRecDepth 100000 in
theorem c_M_bodyFor_6_1 (l : Launch) (D : va_G) (cI cJ cZ cP cS : ClassId) (po : zPool)   : Met l yX1_bodyFor wsX1_bodyFor ({ frames := 1, cells := 0, slots := 0, locals := 22 }) (va_Pc [.int 6, .int 1] (zR D (zKT cI cJ cZ cP cS) po [])) (vp_Si (fun r => r = 71)) 0 0 (fun _ => False) := by
  refine Met.ofW (cc := cX1_bodyFor) (maxL := 5) (ret := (some .int)) (by decide) rfl ?_
  intro p e s m args below meth c s₁ B hml hv
  obtain ⟨rfl, hP, hK, hN, hZ⟩ := hv
  have hx := B.exec
  have hb := B.bytes
  have hr := B.returns
  have hts := atoms_spec (ws := wsX1_bodyFor) B.pre
  have hown : s.vm.findClass RX1 = some m.cls := findClass_of_methodNamed B.named
  have hlocks := B.notSynchronized
  have hl := lv_entry ([.int 6, .int 1]) (n := 5) (Nat.le_of_ble_eq_true rfl)
  rw [lg_entry_eq]
  generalize (lg_sl ([.int 6, .int 1]) ++ List.replicate (5 - (lg_sl ([.int 6, .int 1])).length) Slot.unset).toArray = ls at hl ⊢
  replace hl : lv_has ls 5 [(0, .int 6), (1, .int 1)] := hl
  refine lv_iload_n hx hb dX1_bodyFor_0 rfl (lv_at hl 0 rfl) ?_
  refine lv_istore_n (lv' := [(2, .int 6), (0, .int 6), (1, .int 1)]) hx hb dX1_bodyFor_1 rfl hl (by decide) rfl (fun ls hl => ?_)
  refine lv_iconst (v := 0) hx hb dX1_bodyFor_2 (by decide) ?_
  refine lv_istore_n (lv' := [(3, .int 0), (2, .int 6), (0, .int 6), (1, .int 1)]) hx hb dX1_bodyFor_3 rfl hl (by decide) rfl (fun ls hl => ?_)
  refine lv_iload_n hx hb dX1_bodyFor_4 rfl (lv_at hl 0 rfl) ?_
  refine lv_bipush (v := 7) hx hb dX1_bodyFor_5 (by decide) ?_
  refine lv_icmp_ge (tgt := 48) hx hb dX1_bodyFor_7 (by decide) (fun c_1 => ?_) (fun c_1 => ?_)
  · exact absurd c_1 (by decide)
  · refine lv_iload_n hx hb dX1_bodyFor_10 rfl (lv_at hl 1 rfl) ?_
    refine lv_iconst (v := 0) hx hb dX1_bodyFor_11 (by decide) ?_
    refine lv_bipush (v := 6) hx hb dX1_bodyFor_12 (by decide) ?_
    have kc6 : (6 : Int32).toInt = 6 := by decide
    have kc0 : (0 : Int32).toInt = 0 := by decide
    refine zc_SN (As := [.int 6, .int 0, .int 6]) (rest := []) ⟨hx, hb, hml, hown, hts⟩ (c_within l D cI cJ cZ cP cS po (6) (0) (6) ) ⟨(va_cnB 3 hts gX1_bodyFor_X7_within_n44 rfl rfl rfl (hN.1 (RX1, 44, yX7_within) (List.mem_of_getElem? (i := 13) rfl)) (hts _ (List.mem_of_getElem? (i := 2) rfl)) dh_X7_within ⟨Nat.le_of_ble_eq_true rfl, Nat.le_of_ble_eq_true rfl⟩), (hts _ (List.mem_of_getElem? (i := 1) rfl)), trivial⟩ hK hN hZ rfl hl.1 rfl (Nat.le_of_ble_eq_true rfl) dX1_bodyFor_14 ⟨Nat.le_of_ble_eq_true rfl, Nat.le_of_ble_eq_true rfl⟩ (fun r_2 hr_2 => ?_)
    rcases hr_2 with ⟨rfl, g_3⟩ | ⟨rfl, g_4, g_5⟩ | ⟨rfl, g_6, g_7⟩
    · exfalso; omega
    · exfalso; omega
    · refine lv_if_eq (tgt := 48) hx hb dX1_bodyFor_17 (by decide) (fun c_8 => ?_) (fun c_8 => ?_)
      · exact absurd c_8 (by decide)
      · refine lv_iload_n hx hb dX1_bodyFor_20 rfl (lv_at hl 1 rfl) ?_
        refine lv_iload_n hx hb dX1_bodyFor_21 rfl (lv_at hl 3 rfl) ?_
        refine zc_S (As := [.int 6, .int 1]) (rest := []) ⟨hx, hb, hml, hown, hts⟩ (c_M_own_6_1 l D cI cJ cZ cP cS po  ) (va_cwS 2 hts gX1_bodyFor_X1_ownBody rfl rfl rfl dh_X1_ownBody ⟨Nat.le_of_ble_eq_true rfl, Nat.le_of_ble_eq_true rfl⟩) hK hN hZ rfl hl.1 rfl (Nat.le_of_ble_eq_true rfl) dX1_bodyFor_22 ⟨Nat.le_of_ble_eq_true rfl, Nat.le_of_ble_eq_true rfl⟩ (fun r_9 hr_9 => ?_)
        obtain rfl := hr_9
        refine lv_istore (lv' := [(4, .int 71), (3, .int 0), (2, .int 6), (0, .int 6), (1, .int 1)]) hx hb dX1_bodyFor_25 hl (by decide) rfl (fun ls hl => ?_)
        refine lv_iload hx hb dX1_bodyFor_27 (lv_at hl 0 rfl) ?_
        refine lv_iconst (v := (-1)) hx hb dX1_bodyFor_29 (by decide) ?_
        refine lv_icmp_eq (tgt := 36) hx hb dX1_bodyFor_30 (by decide) (fun c_10 => ?_) (fun c_10 => ?_)
        · exact absurd c_10 (by decide)
        · refine lv_iload hx hb dX1_bodyFor_33 (lv_at hl 0 rfl) ?_
          exact W.iret (v := 71) hx hb hr (fun t ht hW => ⟨71, rfl, rfl, ht⟩) (fun q hq => by cases hq) dX1_bodyFor_35
set_option maxHeartbeats 4000000 in
set_option maxRecDepth 100000 in
theorem c_M_bodyFor_6_2 (l : Launch) (D : va_G) (cI cJ cZ cP cS : ClassId) (po : zPool)   : Met l yX1_bodyFor wsX1_bodyFor ({ frames := 1, cells := 0, slots := 0, locals := 22 }) (va_Pc [.int 6, .int 2] (zR D (zKT cI cJ cZ cP cS) po [])) (vp_Si (fun r => r = 50)) 0 0 (fun _ => False) := by
  refine Met.ofW (cc := cX1_bodyFor) (maxL := 5) (ret := (some .int)) (by decide) rfl ?_
  intro p e s m args below meth c s₁ B hml hv
  obtain ⟨rfl, hP, hK, hN, hZ⟩ := hv
  have hx := B.exec
  have hb := B.bytes
  have hr := B.returns
  have hts := atoms_spec (ws := wsX1_bodyFor) B.pre
  have hown : s.vm.findClass RX1 = some m.cls := findClass_of_methodNamed B.named
  have hlocks := B.notSynchronized
  have hl := lv_entry ([.int 6, .int 2]) (n := 5) (Nat.le_of_ble_eq_true rfl)
  rw [lg_entry_eq]
  generalize (lg_sl ([.int 6, .int 2]) ++ List.replicate (5 - (lg_sl ([.int 6, .int 2])).length) Slot.unset).toArray = ls at hl ⊢
  replace hl : lv_has ls 5 [(0, .int 6), (1, .int 2)] := hl
  refine lv_iload_n hx hb dX1_bodyFor_0 rfl (lv_at hl 0 rfl) ?_
  refine lv_istore_n (lv' := [(2, .int 6), (0, .int 6), (1, .int 2)]) hx hb dX1_bodyFor_1 rfl hl (by decide) rfl (fun ls hl => ?_)
  refine lv_iconst (v := 0) hx hb dX1_bodyFor_2 (by decide) ?_
  refine lv_istore_n (lv' := [(3, .int 0), (2, .int 6), (0, .int 6), (1, .int 2)]) hx hb dX1_bodyFor_3 rfl hl (by decide) rfl (fun ls hl => ?_)
  refine lv_iload_n hx hb dX1_bodyFor_4 rfl (lv_at hl 0 rfl) ?_
  refine lv_bipush (v := 7) hx hb dX1_bodyFor_5 (by decide) ?_
  refine lv_icmp_ge (tgt := 48) hx hb dX1_bodyFor_7 (by decide) (fun c_1 => ?_) (fun c_1 => ?_)
  · exact absurd c_1 (by decide)
  · refine lv_iload_n hx hb dX1_bodyFor_10 rfl (lv_at hl 1 rfl) ?_
    refine lv_iconst (v := 0) hx hb dX1_bodyFor_11 (by decide) ?_
    refine lv_bipush (v := 6) hx hb dX1_bodyFor_12 (by decide) ?_
    have kc6 : (6 : Int32).toInt = 6 := by decide
    have kc0 : (0 : Int32).toInt = 0 := by decide
    refine zc_SN (As := [.int 6, .int 0, .int 6]) (rest := []) ⟨hx, hb, hml, hown, hts⟩ (c_within l D cI cJ cZ cP cS po (6) (0) (6) ) ⟨(va_cnB 3 hts gX1_bodyFor_X7_within_n44 rfl rfl rfl (hN.1 (RX1, 44, yX7_within) (List.mem_of_getElem? (i := 13) rfl)) (hts _ (List.mem_of_getElem? (i := 2) rfl)) dh_X7_within ⟨Nat.le_of_ble_eq_true rfl, Nat.le_of_ble_eq_true rfl⟩), (hts _ (List.mem_of_getElem? (i := 1) rfl)), trivial⟩ hK hN hZ rfl hl.1 rfl (Nat.le_of_ble_eq_true rfl) dX1_bodyFor_14 ⟨Nat.le_of_ble_eq_true rfl, Nat.le_of_ble_eq_true rfl⟩ (fun r_2 hr_2 => ?_)
    rcases hr_2 with ⟨rfl, g_3⟩ | ⟨rfl, g_4, g_5⟩ | ⟨rfl, g_6, g_7⟩
    · exfalso; omega
    · exfalso; omega
    · refine lv_if_eq (tgt := 48) hx hb dX1_bodyFor_17 (by decide) (fun c_8 => ?_) (fun c_8 => ?_)
      · exact absurd c_8 (by decide)
      · refine lv_iload_n hx hb dX1_bodyFor_20 rfl (lv_at hl 1 rfl) ?_
        refine lv_iload_n hx hb dX1_bodyFor_21 rfl (lv_at hl 3 rfl) ?_
        refine zc_S (As := [.int 6, .int 2]) (rest := []) ⟨hx, hb, hml, hown, hts⟩ (c_M_own_6_2 l D cI cJ cZ cP cS po  ) (va_cwS 2 hts gX1_bodyFor_X1_ownBody rfl rfl rfl dh_X1_ownBody ⟨Nat.le_of_ble_eq_true rfl, Nat.le_of_ble_eq_true rfl⟩) hK hN hZ rfl hl.1 rfl (Nat.le_of_ble_eq_true rfl) dX1_bodyFor_22 ⟨Nat.le_of_ble_eq_true rfl, Nat.le_of_ble_eq_true rfl⟩ (fun r_9 hr_9 => ?_)
        obtain rfl := hr_9
        refine lv_istore (lv' := [(4, .int (-1)), (3, .int 0), (2, .int 6), (0, .int 6), (1, .int 2)]) hx hb dX1_bodyFor_25 hl (by decide) rfl (fun ls hl => ?_)
        refine lv_iload hx hb dX1_bodyFor_27 (lv_at hl 0 rfl) ?_
        refine lv_iconst (v := (-1)) hx hb dX1_bodyFor_29 (by decide) ?_
        refine lv_icmp_eq (tgt := 36) hx hb dX1_bodyFor_30 (by decide) (fun c_10 => ?_) (fun c_10 => ?_)
        · obtain ⟨t_11, zt_11, yt_11⟩ := hZ.1.2
          refine va_getsN hx hb zt_11 va_S.rf hown (va_Nw.use rfl (hN.2.1 (RX1, 58) (List.mem_of_getElem? (i := 1) rfl))) (fun _ h9 => h9) dX1_bodyFor_36 ?_
          refine lv_iload_n hx hb dX1_bodyFor_39 rfl (lv_at hl 2 rfl) ?_
          refine va_ti hx hb yt_11 va_S.rf (zf_in (by decide) (by decide)) (v := .int 4) (by decide) dX1_bodyFor_40 ?_
          refine lv_istore_n (lv' := [(2, .int 4), (4, .int (-1)), (3, .int 0), (0, .int 6), (1, .int 2)]) hx hb dX1_bodyFor_41 rfl hl (by decide) rfl (fun ls hl => ?_)
          refine lv_iinc (v := 1) (lv' := [(3, .int 1), (2, .int 4), (4, .int (-1)), (0, .int 6), (1, .int 2)]) hx hb dX1_bodyFor_42 hl (k := 2) rfl (by decide) (by decide) rfl (fun ls hl => ?_)
          refine lv_goto (tgt := 4) hx hb dX1_bodyFor_45 (by decide) ?_
          refine lv_iload_n hx hb dX1_bodyFor_4 rfl (lv_at hl 0 rfl) ?_
          refine lv_bipush (v := 7) hx hb dX1_bodyFor_5 (by decide) ?_
          refine lv_icmp_ge (tgt := 48) hx hb dX1_bodyFor_7 (by decide) (fun c_12 => ?_) (fun c_12 => ?_)
          · exact absurd c_12 (by decide)
          · refine lv_iload_n hx hb dX1_bodyFor_10 rfl (lv_at hl 1 rfl) ?_
            refine lv_iconst (v := 0) hx hb dX1_bodyFor_11 (by decide) ?_
            refine lv_bipush (v := 6) hx hb dX1_bodyFor_12 (by decide) ?_
            have kc4 : (4 : Int32).toInt = 4 := by decide
            refine zc_SN (As := [.int 4, .int 0, .int 6]) (rest := []) ⟨hx, hb, hml, hown, hts⟩ (c_within l D cI cJ cZ cP cS po (4) (0) (6) ) ⟨(va_cnB 3 hts gX1_bodyFor_X7_within_n44 rfl rfl rfl (hN.1 (RX1, 44, yX7_within) (List.mem_of_getElem? (i := 13) rfl)) (hts _ (List.mem_of_getElem? (i := 2) rfl)) dh_X7_within ⟨Nat.le_of_ble_eq_true rfl, Nat.le_of_ble_eq_true rfl⟩), (hts _ (List.mem_of_getElem? (i := 1) rfl)), trivial⟩ hK hN hZ rfl hl.1 rfl (Nat.le_of_ble_eq_true rfl) dX1_bodyFor_14 ⟨Nat.le_of_ble_eq_true rfl, Nat.le_of_ble_eq_true rfl⟩ (fun r_13 hr_13 => ?_)
            rcases hr_13 with ⟨rfl, g_14⟩ | ⟨rfl, g_15, g_16⟩ | ⟨rfl, g_17, g_18⟩
            · exfalso; omega
            · exfalso; omega
            · refine lv_if_eq (tgt := 48) hx hb dX1_bodyFor_17 (by decide) (fun c_19 => ?_) (fun c_19 => ?_)
              · exact absurd c_19 (by decide)
              · refine lv_iload_n hx hb dX1_bodyFor_20 rfl (lv_at hl 1 rfl) ?_
                refine lv_iload_n hx hb dX1_bodyFor_21 rfl (lv_at hl 4 rfl) ?_
                refine zc_S (As := [.int 4, .int 2]) (rest := []) ⟨hx, hb, hml, hown, hts⟩ (c_M_own_4_2 l D cI cJ cZ cP cS po  ) (va_cwS 2 hts gX1_bodyFor_X1_ownBody rfl rfl rfl dh_X1_ownBody ⟨Nat.le_of_ble_eq_true rfl, Nat.le_of_ble_eq_true rfl⟩) hK hN hZ rfl hl.1 rfl (Nat.le_of_ble_eq_true rfl) dX1_bodyFor_22 ⟨Nat.le_of_ble_eq_true rfl, Nat.le_of_ble_eq_true rfl⟩ (fun r_20 hr_20 => ?_)
                obtain rfl := hr_20
                refine lv_istore (lv' := [(4, .int 50), (3, .int 1), (2, .int 4), (0, .int 6), (1, .int 2)]) hx hb dX1_bodyFor_25 hl (by decide) rfl (fun ls hl => ?_)
                refine lv_iload hx hb dX1_bodyFor_27 (lv_at hl 0 rfl) ?_
                refine lv_iconst (v := (-1)) hx hb dX1_bodyFor_29 (by decide) ?_
                refine lv_icmp_eq (tgt := 36) hx hb dX1_bodyFor_30 (by decide) (fun c_21 => ?_) (fun c_21 => ?_)
                · exact absurd c_21 (by decide)
                · refine lv_iload hx hb dX1_bodyFor_33 (lv_at hl 0 rfl) ?_
                  exact W.iret (v := 50) hx hb hr (fun t ht hW => ⟨50, rfl, rfl, ht⟩) (fun q hq => by cases hq) dX1_bodyFor_35
        · exact absurd c_10 (by decide)
end
