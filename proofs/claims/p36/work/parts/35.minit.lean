section
theorem gl_X8_init_X80 : GoodIn wsX8_init wsX80 := (dg_t (dg_r gw_wsX80))
theorem hi_X8_init_8 : ∀ w ∈ u_ws RX8 TX8 38, w ∈ wsX8_init := fun w h => (gl_X8_init_X80 w h).1
set_option maxHeartbeats 4000000 in
set_option maxRecDepth 100000 in
theorem c_M_init (l : Launch) (D : va_G) (cI cJ cZ cP cS : ClassId) (po : zPool) (m0 : Nat)  (hpz : Nat) : Met l yX8_init wsX8_init ({ frames := 1, cells := 21, slots := 1985, locals := 12 }) (va_Pc [.ref m0] (zW D (zKT cI cJ cZ cP cS) po [(m0, .inr (8, (.int 0 :: .int 0 :: .int 0 :: .int 0 :: .int 0 :: .int 0 :: .int 0 :: .int 0 :: .int 0 :: .int 0 :: .null :: .null :: .null :: .null :: .null :: .null :: .null :: .null :: .null :: .null :: .null :: .null :: .null :: .null :: .null :: .null :: .int 0 :: .int 0 :: .int 0 :: .int 0 :: .int 0 :: .null :: .null :: .null :: .null :: .null :: .int 0 :: .int 0 :: [])))] hpz)) (va_Qv (fun (u : (Nat) × (Nat) × (Nat) × (Nat) × (Nat) × (Nat) × (Nat) × (Nat) × (Nat) × (Nat) × (Nat) × (Nat) × (Nat) × (Nat) × (Nat) × (Nat) × (Nat) × (Nat) × (Nat) × (Nat) × (Nat)) => True) (zB D [(m0, .inr (8, (.int 0 :: .int 0 :: .int 0 :: .int 0 :: .int 0 :: .int 0 :: .int 0 :: .int 0 :: .int 0 :: .int 0 :: .null :: .null :: .null :: .null :: .null :: .null :: .null :: .null :: .null :: .null :: .null :: .null :: .null :: .null :: .null :: .null :: .int 0 :: .int 0 :: .int 0 :: .int 0 :: .int 0 :: .null :: .null :: .null :: .null :: .null :: .int 0 :: .int 0 :: [])))] hpz (fun (u : (Nat) × (Nat) × (Nat) × (Nat) × (Nat) × (Nat) × (Nat) × (Nat) × (Nat) × (Nat) × (Nat) × (Nat) × (Nat) × (Nat) × (Nat) × (Nat) × (Nat) × (Nat) × (Nat) × (Nat) × (Nat)) => ((zMO m0 0 20 0 0 0 60 0 3 1 (-1) u.1 u.2.1 u.2.2.1 u.2.2.2.1 u.2.2.2.2.1 u.2.2.2.2.2.1 u.2.2.2.2.2.2.1 u.2.2.2.2.2.2.2.1 u.2.2.2.2.2.2.2.2.1 u.2.2.2.2.2.2.2.2.2.1 u.2.2.2.2.2.2.2.2.2.2.1 u.2.2.2.2.2.2.2.2.2.2.2.1 u.2.2.2.2.2.2.2.2.2.2.2.2.1 u.2.2.2.2.2.2.2.2.2.2.2.2.2.1 u.2.2.2.2.2.2.2.2.2.2.2.2.2.2.1 u.2.2.2.2.2.2.2.2.2.2.2.2.2.2.2.1 0 0 0 0 0 u.2.2.2.2.2.2.2.2.2.2.2.2.2.2.2.2.1 u.2.2.2.2.2.2.2.2.2.2.2.2.2.2.2.2.2.1 u.2.2.2.2.2.2.2.2.2.2.2.2.2.2.2.2.2.2.1 u.2.2.2.2.2.2.2.2.2.2.2.2.2.2.2.2.2.2.2.1 u.2.2.2.2.2.2.2.2.2.2.2.2.2.2.2.2.2.2.2.2 0 0) :: (u.1, .inl (cI, 8, .inl (fun _ => 0))) :: (u.2.1, .inl (cI, 8, .inl (fun _ => 0))) :: (u.2.2.1, .inl (cI, 8, .inl (fun _ => 0))) :: (u.2.2.2.1, .inl (cI, 8, .inl (fun _ => 0))) :: (u.2.2.2.2.1, .inl (cI, 40, .inl (fun _ => 0))) :: (u.2.2.2.2.2.1, .inl (cI, 40, .inl (fun _ => 0))) :: (u.2.2.2.2.2.2.1, .inl (cI, 3, .inl (zL3 5 10 50))) :: (u.2.2.2.2.2.2.2.1, .inl (cI, 8, .inl (fun _ => 0))) :: (u.2.2.2.2.2.2.2.2.1, .inl (cI, 8, .inl (fun _ => 0))) :: (u.2.2.2.2.2.2.2.2.2.1, .inl (cI, 8, .inl (fun _ => 0))) :: (u.2.2.2.2.2.2.2.2.2.2.1, .inl (cI, 8, .inl (fun _ => 0))) :: (u.2.2.2.2.2.2.2.2.2.2.2.1, .inl (cJ, 1280, .inr (.inl (fun _ => 0)))) :: (u.2.2.2.2.2.2.2.2.2.2.2.2.1, .inl (cJ, 160, .inr (.inl (fun _ => 0)))) :: (u.2.2.2.2.2.2.2.2.2.2.2.2.2.1, .inl (cI, 64, .inl (upd (upd (upd (upd (upd (upd (upd (upd (upd (upd (upd (upd (upd (upd (upd (upd (upd (upd (upd (upd (upd (upd (upd (upd (upd (upd (upd (upd (upd (upd (upd (upd (upd (upd (upd (upd (upd (upd (upd (upd (upd (upd (upd (upd (upd (upd (upd (upd (upd (upd (upd (upd (upd (upd (upd (upd (upd (upd (upd (upd (upd (upd (upd (upd (fun _ => 0) (0 : Int32).toNatClampNeg 116) (1 : Int32).toNatClampNeg 101) (2 : Int32).toNatClampNeg 101) (3 : Int32).toNatClampNeg 116) (4 : Int32).toNatClampNeg 104) (5 : Int32).toNatClampNeg 32) (6 : Int32).toNatClampNeg 0) (7 : Int32).toNatClampNeg 108) (8 : Int32).toNatClampNeg 97) (9 : Int32).toNatClampNeg 99) (10 : Int32).toNatClampNeg 107) (11 : Int32).toNatClampNeg 32) (12 : Int32).toNatClampNeg 0) (13 : Int32).toNatClampNeg 115) (14 : Int32).toNatClampNeg 108) (15 : Int32).toNatClampNeg 97) (16 : Int32).toNatClampNeg 99) (17 : Int32).toNatClampNeg 107) (18 : Int32).toNatClampNeg 32) (19 : Int32).toNatClampNeg 0) (20 : Int32).toNatClampNeg 112) (21 : Int32).toNatClampNeg 117) (22 : Int32).toNatClampNeg 108) (23 : Int32).toNatClampNeg 108) (24 : Int32).toNatClampNeg 32) (25 : Int32).toNatClampNeg 0) (26 : Int32).toNatClampNeg 100) (27 : Int32).toNatClampNeg 101) (28 : Int32).toNatClampNeg 112) (29 : Int32).toNatClampNeg 116) (30 : Int32).toNatClampNeg 104) (31 : Int32).toNatClampNeg 32) (32 : Int32).toNatClampNeg 0) (33 : Int32).toNatClampNeg 115) (34 : Int32).toNatClampNeg 101) (35 : Int32).toNatClampNeg 99) (36 : Int32).toNatClampNeg 111) (37 : Int32).toNatClampNeg 110) (38 : Int32).toNatClampNeg 100) (39 : Int32).toNatClampNeg 115) (40 : Int32).toNatClampNeg 32) (41 : Int32).toNatClampNeg 0) (42 : Int32).toNatClampNeg 104) (43 : Int32).toNatClampNeg 117) (44 : Int32).toNatClampNeg 114) (45 : Int32).toNatClampNeg 114) (46 : Int32).toNatClampNeg 121) (47 : Int32).toNatClampNeg 32) (48 : Int32).toNatClampNeg 0) (49 : Int32).toNatClampNeg 103) (50 : Int32).toNatClampNeg 97) (51 : Int32).toNatClampNeg 112) (52 : Int32).toNatClampNeg 32) (53 : Int32).toNatClampNeg 0) (54 : Int32).toNatClampNeg 99) (55 : Int32).toNatClampNeg 111) (56 : Int32).toNatClampNeg 115) (57 : Int32).toNatClampNeg 116) (58 : Int32).toNatClampNeg 32) (59 : Int32).toNatClampNeg 0) (60 : Int32).toNatClampNeg 97) (61 : Int32).toNatClampNeg 116) (62 : Int32).toNatClampNeg 32) (63 : Int32).toNatClampNeg 0))) :: (u.2.2.2.2.2.2.2.2.2.2.2.2.2.2.1, .inl (cI, 10, .inl (upd (upd (upd (upd (upd (upd (upd (upd (upd (upd (fun _ => 0) (0 : Int32).toNatClampNeg 1) (1 : Int32).toNatClampNeg 1) (2 : Int32).toNatClampNeg 2) (3 : Int32).toNatClampNeg 3) (4 : Int32).toNatClampNeg 1) (5 : Int32).toNatClampNeg 1) (6 : Int32).toNatClampNeg 1) (7 : Int32).toNatClampNeg 1) (8 : Int32).toNatClampNeg 2) (9 : Int32).toNatClampNeg 1))) :: (u.2.2.2.2.2.2.2.2.2.2.2.2.2.2.2.1, .inl (cI, 3, .inl (fun _ => 0))) :: (u.2.2.2.2.2.2.2.2.2.2.2.2.2.2.2.2.1, .inl (cI, 130, .inl (fun _ => 0))) :: (u.2.2.2.2.2.2.2.2.2.2.2.2.2.2.2.2.2.1, .inl (cI, 130, .inl (fun _ => 0))) :: (u.2.2.2.2.2.2.2.2.2.2.2.2.2.2.2.2.2.2.1, .inl (cI, 3, .inl (fun _ => 0))) :: (u.2.2.2.2.2.2.2.2.2.2.2.2.2.2.2.2.2.2.2.1, .inl (cI, 3, .inl (fun _ => 0))) :: (u.2.2.2.2.2.2.2.2.2.2.2.2.2.2.2.2.2.2.2.2, .inl (cI, 20, .inl (fun _ => 0))) :: []))) (va_A [(m0, .inr (8, (.int 0 :: .int 0 :: .int 0 :: .int 0 :: .int 0 :: .int 0 :: .int 0 :: .int 0 :: .int 0 :: .int 0 :: .null :: .null :: .null :: .null :: .null :: .null :: .null :: .null :: .null :: .null :: .null :: .null :: .null :: .null :: .null :: .null :: .int 0 :: .int 0 :: .int 0 :: .int 0 :: .int 0 :: .null :: .null :: .null :: .null :: .null :: .int 0 :: .int 0 :: [])))] hpz)) 21 1985 (va_A [(m0, .inr (8, (.int 0 :: .int 0 :: .int 0 :: .int 0 :: .int 0 :: .int 0 :: .int 0 :: .int 0 :: .int 0 :: .int 0 :: .null :: .null :: .null :: .null :: .null :: .null :: .null :: .null :: .null :: .null :: .null :: .null :: .null :: .null :: .null :: .null :: .int 0 :: .int 0 :: .int 0 :: .int 0 :: .int 0 :: .null :: .null :: .null :: .null :: .null :: .int 0 :: .int 0 :: [])))] hpz) := by
  refine Met.ofW (cc := cX8_init) (maxL := 1) (ret := none) (by decide) rfl ?_
  intro p e s m args below meth c s₁ B hml hv
  obtain ⟨rfl, hsz, hP, hK, hD0, hN, hZ⟩ := hv
  have hx := B.exec
  have hb := B.bytes
  have hr := B.returns
  have hts := atoms_spec (ws := wsX8_init) B.pre
  have hown : s.vm.findClass RX8 = some m.cls := findClass_of_methodNamed B.named
  have hlocks := B.notSynchronized
  have hin : meth.name = "<init>" := (name_of_methodNamed B.named B.method).1
  subst hsz
  have hD := hD0.self (sz := s.heap.size)
  have hA := zA_of hD
  have hl := lv_entry ([.ref m0]) (n := 1) (Nat.le_of_ble_eq_true rfl)
  rw [lg_entry_eq]
  generalize (lg_sl ([.ref m0]) ++ List.replicate (1 - (lg_sl ([.ref m0])).length) Slot.unset).toArray = ls at hl ⊢
  replace hl : lv_has ls 1 [(0, .ref m0)] := hl
  refine zw_begin hP hD (fun H locs hP1 hS => ?_)
  clear hP
  have hP := hP1
  clear hP1
  refine lv_aload_n hx hb dX8_init_0 rfl (lv_at hl 0 rfl) ?_
  refine W.objInit hx hb hown (hts (.methodLink RX8 1 objectInit) (List.mem_of_getElem? (i := 1) rfl)) (hts _ (List.mem_of_getElem? (i := 2) rfl)) (hts _ (List.mem_of_getElem? (i := 3) rfl)) rfl (by rw [hml]; exact hl.1) rfl dX8_init_1 (Nat.le_of_ble_eq_true rfl) (Nat.le_of_ble_eq_true rfl) ?_
  refine W.eq (g2 := F0 m 4 ls []) rfl ?_
  refine lv_aload_n hx hb dX8_init_4 rfl (lv_at hl 0 rfl) ?_
  refine lv_bipush (v := 20) hx hb dX8_init_5 (by decide) ?_
  refine va_put (D := D) (ci := 8) (v := .int 20) (ty := .int) (C := RX8) (T := TX8) (N := 38) hx hb hts hi_X8_init_8 tyX8 tyX8_ok nmX8 hown hK hP hD hS 0 rfl rfl 1 (by decide) (hts (.fieldLink RX8 7 "TheLiningsInItModel" "teeth" "I") (List.mem_of_getElem? (i := 4) rfl)) (fun _ h9 => h9) rfl (tyX8_ok 1 (Nat.le_of_ble_eq_true rfl)) rfl rfl (Nat.le_of_ble_eq_true rfl) dX8_init_7 (fun H locs hP hD hS => ?_)
  have h9R := zRe (ws' := [(m0, .inr (8, (.int 0 :: .int 20 :: .int 0 :: .int 0 :: .int 0 :: .int 0 :: .int 0 :: .int 0 :: .int 0 :: .int 0 :: .null :: .null :: .null :: .null :: .null :: .null :: .null :: .null :: .null :: .null :: .null :: .null :: .null :: .null :: .null :: .null :: .int 0 :: .int 0 :: .int 0 :: .int 0 :: .int 0 :: .null :: .null :: .null :: .null :: .null :: .int 0 :: .int 0 :: [])))]) hP hD rfl
  clear hP hD
  obtain ⟨hP, hD⟩ := h9R
  refine lv_aload_n hx hb dX8_init_10 rfl (lv_at hl 0 rfl) ?_
  refine lv_bipush (v := 60) hx hb dX8_init_11 (by decide) ?_
  refine va_put (D := D) (ci := 8) (v := .int 60) (ty := .int) (C := RX8) (T := TX8) (N := 38) hx hb hts hi_X8_init_8 tyX8 tyX8_ok nmX8 hown hK hP hD hS 0 rfl rfl 5 (by decide) (hts (.fieldLink RX8 13 "TheLiningsInItModel" "seconds" "I") (List.mem_of_getElem? (i := 5) rfl)) (fun _ h9 => h9) rfl (tyX8_ok 5 (Nat.le_of_ble_eq_true rfl)) rfl rfl (Nat.le_of_ble_eq_true rfl) dX8_init_13 (fun H locs hP hD hS => ?_)
  have h9R := zRe (ws' := [(m0, .inr (8, (.int 0 :: .int 20 :: .int 0 :: .int 0 :: .int 0 :: .int 60 :: .int 0 :: .int 0 :: .int 0 :: .int 0 :: .null :: .null :: .null :: .null :: .null :: .null :: .null :: .null :: .null :: .null :: .null :: .null :: .null :: .null :: .null :: .null :: .int 0 :: .int 0 :: .int 0 :: .int 0 :: .int 0 :: .null :: .null :: .null :: .null :: .null :: .int 0 :: .int 0 :: [])))]) hP hD rfl
  clear hP hD
  obtain ⟨hP, hD⟩ := h9R
  refine lv_aload_n hx hb dX8_init_16 rfl (lv_at hl 0 rfl) ?_
  refine lv_iconst (v := 3) hx hb dX8_init_17 (by decide) ?_
  refine va_put (D := D) (ci := 8) (v := .int 3) (ty := .int) (C := RX8) (T := TX8) (N := 38) hx hb hts hi_X8_init_8 tyX8 tyX8_ok nmX8 hown hK hP hD hS 0 rfl rfl 7 (by decide) (hts (.fieldLink RX8 16 "TheLiningsInItModel" "gap" "I") (List.mem_of_getElem? (i := 6) rfl)) (fun _ h9 => h9) rfl (tyX8_ok 7 (Nat.le_of_ble_eq_true rfl)) rfl rfl (Nat.le_of_ble_eq_true rfl) dX8_init_18 (fun H locs hP hD hS => ?_)
  have h9R := zRe (ws' := [(m0, .inr (8, (.int 0 :: .int 20 :: .int 0 :: .int 0 :: .int 0 :: .int 60 :: .int 0 :: .int 3 :: .int 0 :: .int 0 :: .null :: .null :: .null :: .null :: .null :: .null :: .null :: .null :: .null :: .null :: .null :: .null :: .null :: .null :: .null :: .null :: .int 0 :: .int 0 :: .int 0 :: .int 0 :: .int 0 :: .null :: .null :: .null :: .null :: .null :: .int 0 :: .int 0 :: [])))]) hP hD rfl
  clear hP hD
  obtain ⟨hP, hD⟩ := h9R
  refine lv_aload_n hx hb dX8_init_21 rfl (lv_at hl 0 rfl) ?_
  refine lv_iconst (v := 1) hx hb dX8_init_22 (by decide) ?_
  refine va_put (D := D) (ci := 8) (v := .int 1) (ty := .int) (C := RX8) (T := TX8) (N := 38) hx hb hts hi_X8_init_8 tyX8 tyX8_ok nmX8 hown hK hP hD hS 0 rfl rfl 8 (by decide) (hts (.fieldLink RX8 19 "TheLiningsInItModel" "seed" "I") (List.mem_of_getElem? (i := 7) rfl)) (fun _ h9 => h9) rfl (tyX8_ok 8 (Nat.le_of_ble_eq_true rfl)) rfl rfl (Nat.le_of_ble_eq_true rfl) dX8_init_23 (fun H locs hP hD hS => ?_)
  have h9R := zRe (ws' := [(m0, .inr (8, (.int 0 :: .int 20 :: .int 0 :: .int 0 :: .int 0 :: .int 60 :: .int 0 :: .int 3 :: .int 1 :: .int 0 :: .null :: .null :: .null :: .null :: .null :: .null :: .null :: .null :: .null :: .null :: .null :: .null :: .null :: .null :: .null :: .null :: .int 0 :: .int 0 :: .int 0 :: .int 0 :: .int 0 :: .null :: .null :: .null :: .null :: .null :: .int 0 :: .int 0 :: [])))]) hP hD rfl
  clear hP hD
  obtain ⟨hP, hD⟩ := h9R
  refine lv_aload_n hx hb dX8_init_26 rfl (lv_at hl 0 rfl) ?_
  refine lv_iconst (v := (-1)) hx hb dX8_init_27 (by decide) ?_
  refine va_put (D := D) (ci := 8) (v := .int (-1)) (ty := .int) (C := RX8) (T := TX8) (N := 38) hx hb hts hi_X8_init_8 tyX8 tyX8_ok nmX8 hown hK hP hD hS 0 rfl rfl 9 (by decide) (hts (.fieldLink RX8 22 "TheLiningsInItModel" "fault" "I") (List.mem_of_getElem? (i := 8) rfl)) (fun _ h9 => h9) rfl (tyX8_ok 9 (Nat.le_of_ble_eq_true rfl)) rfl rfl (Nat.le_of_ble_eq_true rfl) dX8_init_28 (fun H locs hP hD hS => ?_)
  have h9R := zRe (ws' := [(m0, .inr (8, (.int 0 :: .int 20 :: .int 0 :: .int 0 :: .int 0 :: .int 60 :: .int 0 :: .int 3 :: .int 1 :: .int (-1) :: .null :: .null :: .null :: .null :: .null :: .null :: .null :: .null :: .null :: .null :: .null :: .null :: .null :: .null :: .null :: .null :: .int 0 :: .int 0 :: .int 0 :: .int 0 :: .int 0 :: .null :: .null :: .null :: .null :: .null :: .int 0 :: .int 0 :: [])))]) hP hD rfl
  clear hP hD
  obtain ⟨hP, hD⟩ := h9R
  refine lv_aload_n hx hb dX8_init_31 rfl (lv_at hl 0 rfl) ?_
  refine lv_bipush (v := 8) hx hb dX8_init_32 (by decide) ?_
  refine va_newa hx hb (atype := .int) (hts _ (List.mem_of_getElem? (i := 9) rfl)) rfl hK hP hD hS hA (N' := 8) (a0 := (8, .inl (fun _ => 0))) (fun _ => rfl) (by decide) (by decide) (Nat.le_of_ble_eq_true rfl) (Nat.le_of_ble_eq_true rfl) (Nat.le_of_ble_eq_true rfl) dX8_init_34 (fun q_1 cA H hK1 hP hD hS => ?_)
  obtain rfl : cI = cA := zk_eqI (k := 0) hK rfl hK1
  have h9R := zRe (ws' := [(m0, .inr (8, (.int 0 :: .int 20 :: .int 0 :: .int 0 :: .int 0 :: .int 60 :: .int 0 :: .int 3 :: .int 1 :: .int (-1) :: .null :: .null :: .null :: .null :: .null :: .null :: .null :: .null :: .null :: .null :: .null :: .null :: .null :: .null :: .null :: .null :: .int 0 :: .int 0 :: .int 0 :: .int 0 :: .int 0 :: .null :: .null :: .null :: .null :: .null :: .int 0 :: .int 0 :: []))), (q_1, .inl (cI, 8, .inl (fun _ => 0)))]) hP hD rfl
  clear hP hD
  obtain ⟨hP, hD⟩ := h9R
  refine W.widen (k := 1) (n := 8) (Nat.le_of_ble_eq_true rfl) (Nat.le_of_ble_eq_true rfl) ?_
  refine va_putF (D := D) (ci := 8) (v := .ref q_1) (ty := (.array .int)) (C := RX8) (T := TX8) (N := 38) hx hb hts hi_X8_init_8 tyX8 tyX8_ok nmX8 hown hK hP hD hS 0 rfl rfl 10 (by decide) (hts (.fieldLink RX8 25 "TheLiningsInItModel" "refused" "[I") (List.mem_of_getElem? (i := 10) rfl)) (fun _ h9 => h9) rfl hin rfl (tyX8_ok 10 (Nat.le_of_ble_eq_true rfl)) rfl rfl (Nat.le_of_ble_eq_true rfl) dX8_init_36 (fun H locs hP hD hS => ?_)
  have h9R := zRe (ws' := [(m0, .inr (8, (.int 0 :: .int 20 :: .int 0 :: .int 0 :: .int 0 :: .int 60 :: .int 0 :: .int 3 :: .int 1 :: .int (-1) :: .ref q_1 :: .null :: .null :: .null :: .null :: .null :: .null :: .null :: .null :: .null :: .null :: .null :: .null :: .null :: .null :: .null :: .int 0 :: .int 0 :: .int 0 :: .int 0 :: .int 0 :: .null :: .null :: .null :: .null :: .null :: .int 0 :: .int 0 :: []))), (q_1, .inl (cI, 8, .inl (fun _ => 0)))]) hP hD rfl
  clear hP hD
  obtain ⟨hP, hD⟩ := h9R
  refine lv_aload_n hx hb dX8_init_39 rfl (lv_at hl 0 rfl) ?_
  refine lv_bipush (v := 8) hx hb dX8_init_40 (by decide) ?_
  refine va_newa hx hb (atype := .int) (hts _ (List.mem_of_getElem? (i := 9) rfl)) rfl hK hP hD hS hA (N' := 8) (a0 := (8, .inl (fun _ => 0))) (fun _ => rfl) (by decide) (by decide) (Nat.le_of_ble_eq_true rfl) (Nat.le_of_ble_eq_true rfl) (Nat.le_of_ble_eq_true rfl) dX8_init_42 (fun q_2 cA H hK1 hP hD hS => ?_)
  obtain rfl : cI = cA := zk_eqI (k := 0) hK rfl hK1
  have h9R := zRe (ws' := [(m0, .inr (8, (.int 0 :: .int 20 :: .int 0 :: .int 0 :: .int 0 :: .int 60 :: .int 0 :: .int 3 :: .int 1 :: .int (-1) :: .ref q_1 :: .null :: .null :: .null :: .null :: .null :: .null :: .null :: .null :: .null :: .null :: .null :: .null :: .null :: .null :: .null :: .int 0 :: .int 0 :: .int 0 :: .int 0 :: .int 0 :: .null :: .null :: .null :: .null :: .null :: .int 0 :: .int 0 :: []))), (q_1, .inl (cI, 8, .inl (fun _ => 0))), (q_2, .inl (cI, 8, .inl (fun _ => 0)))]) hP hD rfl
  clear hP hD
  obtain ⟨hP, hD⟩ := h9R
  refine W.widen (k := 2) (n := 16) (Nat.le_of_ble_eq_true rfl) (Nat.le_of_ble_eq_true rfl) ?_
  refine va_putF (D := D) (ci := 8) (v := .ref q_2) (ty := (.array .int)) (C := RX8) (T := TX8) (N := 38) hx hb hts hi_X8_init_8 tyX8 tyX8_ok nmX8 hown hK hP hD hS 0 rfl rfl 11 (by decide) (hts (.fieldLink RX8 29 "TheLiningsInItModel" "kind" "[I") (List.mem_of_getElem? (i := 11) rfl)) (fun _ h9 => h9) rfl hin rfl (tyX8_ok 11 (Nat.le_of_ble_eq_true rfl)) rfl rfl (Nat.le_of_ble_eq_true rfl) dX8_init_44 (fun H locs hP hD hS => ?_)
  have h9R := zRe (ws' := [(m0, .inr (8, (.int 0 :: .int 20 :: .int 0 :: .int 0 :: .int 0 :: .int 60 :: .int 0 :: .int 3 :: .int 1 :: .int (-1) :: .ref q_1 :: .ref q_2 :: .null :: .null :: .null :: .null :: .null :: .null :: .null :: .null :: .null :: .null :: .null :: .null :: .null :: .null :: .int 0 :: .int 0 :: .int 0 :: .int 0 :: .int 0 :: .null :: .null :: .null :: .null :: .null :: .int 0 :: .int 0 :: []))), (q_1, .inl (cI, 8, .inl (fun _ => 0))), (q_2, .inl (cI, 8, .inl (fun _ => 0)))]) hP hD rfl
  clear hP hD
  obtain ⟨hP, hD⟩ := h9R
  refine lv_aload_n hx hb dX8_init_47 rfl (lv_at hl 0 rfl) ?_
  refine lv_bipush (v := 8) hx hb dX8_init_48 (by decide) ?_
  refine va_newa hx hb (atype := .int) (hts _ (List.mem_of_getElem? (i := 9) rfl)) rfl hK hP hD hS hA (N' := 8) (a0 := (8, .inl (fun _ => 0))) (fun _ => rfl) (by decide) (by decide) (Nat.le_of_ble_eq_true rfl) (Nat.le_of_ble_eq_true rfl) (Nat.le_of_ble_eq_true rfl) dX8_init_50 (fun q_3 cA H hK1 hP hD hS => ?_)
  obtain rfl : cI = cA := zk_eqI (k := 0) hK rfl hK1
  have h9R := zRe (ws' := [(m0, .inr (8, (.int 0 :: .int 20 :: .int 0 :: .int 0 :: .int 0 :: .int 60 :: .int 0 :: .int 3 :: .int 1 :: .int (-1) :: .ref q_1 :: .ref q_2 :: .null :: .null :: .null :: .null :: .null :: .null :: .null :: .null :: .null :: .null :: .null :: .null :: .null :: .null :: .int 0 :: .int 0 :: .int 0 :: .int 0 :: .int 0 :: .null :: .null :: .null :: .null :: .null :: .int 0 :: .int 0 :: []))), (q_1, .inl (cI, 8, .inl (fun _ => 0))), (q_2, .inl (cI, 8, .inl (fun _ => 0))), (q_3, .inl (cI, 8, .inl (fun _ => 0)))]) hP hD rfl
  clear hP hD
  obtain ⟨hP, hD⟩ := h9R
  refine W.widen (k := 3) (n := 24) (Nat.le_of_ble_eq_true rfl) (Nat.le_of_ble_eq_true rfl) ?_
  refine va_putF (D := D) (ci := 8) (v := .ref q_3) (ty := (.array .int)) (C := RX8) (T := TX8) (N := 38) hx hb hts hi_X8_init_8 tyX8 tyX8_ok nmX8 hown hK hP hD hS 0 rfl rfl 12 (by decide) (hts (.fieldLink RX8 32 "TheLiningsInItModel" "part" "[I") (List.mem_of_getElem? (i := 12) rfl)) (fun _ h9 => h9) rfl hin rfl (tyX8_ok 12 (Nat.le_of_ble_eq_true rfl)) rfl rfl (Nat.le_of_ble_eq_true rfl) dX8_init_52 (fun H locs hP hD hS => ?_)
  have h9R := zRe (ws' := [(m0, .inr (8, (.int 0 :: .int 20 :: .int 0 :: .int 0 :: .int 0 :: .int 60 :: .int 0 :: .int 3 :: .int 1 :: .int (-1) :: .ref q_1 :: .ref q_2 :: .ref q_3 :: .null :: .null :: .null :: .null :: .null :: .null :: .null :: .null :: .null :: .null :: .null :: .null :: .null :: .int 0 :: .int 0 :: .int 0 :: .int 0 :: .int 0 :: .null :: .null :: .null :: .null :: .null :: .int 0 :: .int 0 :: []))), (q_1, .inl (cI, 8, .inl (fun _ => 0))), (q_2, .inl (cI, 8, .inl (fun _ => 0))), (q_3, .inl (cI, 8, .inl (fun _ => 0)))]) hP hD rfl
  clear hP hD
  obtain ⟨hP, hD⟩ := h9R
  refine lv_aload_n hx hb dX8_init_55 rfl (lv_at hl 0 rfl) ?_
  refine lv_bipush (v := 8) hx hb dX8_init_56 (by decide) ?_
  refine va_newa hx hb (atype := .int) (hts _ (List.mem_of_getElem? (i := 9) rfl)) rfl hK hP hD hS hA (N' := 8) (a0 := (8, .inl (fun _ => 0))) (fun _ => rfl) (by decide) (by decide) (Nat.le_of_ble_eq_true rfl) (Nat.le_of_ble_eq_true rfl) (Nat.le_of_ble_eq_true rfl) dX8_init_58 (fun q_4 cA H hK1 hP hD hS => ?_)
  obtain rfl : cI = cA := zk_eqI (k := 0) hK rfl hK1
  have h9R := zRe (ws' := [(m0, .inr (8, (.int 0 :: .int 20 :: .int 0 :: .int 0 :: .int 0 :: .int 60 :: .int 0 :: .int 3 :: .int 1 :: .int (-1) :: .ref q_1 :: .ref q_2 :: .ref q_3 :: .null :: .null :: .null :: .null :: .null :: .null :: .null :: .null :: .null :: .null :: .null :: .null :: .null :: .int 0 :: .int 0 :: .int 0 :: .int 0 :: .int 0 :: .null :: .null :: .null :: .null :: .null :: .int 0 :: .int 0 :: []))), (q_1, .inl (cI, 8, .inl (fun _ => 0))), (q_2, .inl (cI, 8, .inl (fun _ => 0))), (q_3, .inl (cI, 8, .inl (fun _ => 0))), (q_4, .inl (cI, 8, .inl (fun _ => 0)))]) hP hD rfl
  clear hP hD
  obtain ⟨hP, hD⟩ := h9R
  refine W.widen (k := 4) (n := 32) (Nat.le_of_ble_eq_true rfl) (Nat.le_of_ble_eq_true rfl) ?_
  refine va_putF (D := D) (ci := 8) (v := .ref q_4) (ty := (.array .int)) (C := RX8) (T := TX8) (N := 38) hx hb hts hi_X8_init_8 tyX8 tyX8_ok nmX8 hown hK hP hD hS 0 rfl rfl 13 (by decide) (hts (.fieldLink RX8 35 "TheLiningsInItModel" "takes" "[I") (List.mem_of_getElem? (i := 13) rfl)) (fun _ h9 => h9) rfl hin rfl (tyX8_ok 13 (Nat.le_of_ble_eq_true rfl)) rfl rfl (Nat.le_of_ble_eq_true rfl) dX8_init_60 (fun H locs hP hD hS => ?_)
  have h9R := zRe (ws' := [(m0, .inr (8, (.int 0 :: .int 20 :: .int 0 :: .int 0 :: .int 0 :: .int 60 :: .int 0 :: .int 3 :: .int 1 :: .int (-1) :: .ref q_1 :: .ref q_2 :: .ref q_3 :: .ref q_4 :: .null :: .null :: .null :: .null :: .null :: .null :: .null :: .null :: .null :: .null :: .null :: .null :: .int 0 :: .int 0 :: .int 0 :: .int 0 :: .int 0 :: .null :: .null :: .null :: .null :: .null :: .int 0 :: .int 0 :: []))), (q_1, .inl (cI, 8, .inl (fun _ => 0))), (q_2, .inl (cI, 8, .inl (fun _ => 0))), (q_3, .inl (cI, 8, .inl (fun _ => 0))), (q_4, .inl (cI, 8, .inl (fun _ => 0)))]) hP hD rfl
  clear hP hD
  obtain ⟨hP, hD⟩ := h9R
  refine lv_aload_n hx hb dX8_init_63 rfl (lv_at hl 0 rfl) ?_
  refine lv_bipush (v := 40) hx hb dX8_init_64 (by decide) ?_
  refine va_newa hx hb (atype := .int) (hts _ (List.mem_of_getElem? (i := 9) rfl)) rfl hK hP hD hS hA (N' := 40) (a0 := (40, .inl (fun _ => 0))) (fun _ => rfl) (by decide) (by decide) (Nat.le_of_ble_eq_true rfl) (Nat.le_of_ble_eq_true rfl) (Nat.le_of_ble_eq_true rfl) dX8_init_66 (fun q_5 cA H hK1 hP hD hS => ?_)
  obtain rfl : cI = cA := zk_eqI (k := 0) hK rfl hK1
  have h9R := zRe (ws' := [(m0, .inr (8, (.int 0 :: .int 20 :: .int 0 :: .int 0 :: .int 0 :: .int 60 :: .int 0 :: .int 3 :: .int 1 :: .int (-1) :: .ref q_1 :: .ref q_2 :: .ref q_3 :: .ref q_4 :: .null :: .null :: .null :: .null :: .null :: .null :: .null :: .null :: .null :: .null :: .null :: .null :: .int 0 :: .int 0 :: .int 0 :: .int 0 :: .int 0 :: .null :: .null :: .null :: .null :: .null :: .int 0 :: .int 0 :: []))), (q_1, .inl (cI, 8, .inl (fun _ => 0))), (q_2, .inl (cI, 8, .inl (fun _ => 0))), (q_3, .inl (cI, 8, .inl (fun _ => 0))), (q_4, .inl (cI, 8, .inl (fun _ => 0))), (q_5, .inl (cI, 40, .inl (fun _ => 0)))]) hP hD rfl
  clear hP hD
  obtain ⟨hP, hD⟩ := h9R
  refine W.widen (k := 5) (n := 72) (Nat.le_of_ble_eq_true rfl) (Nat.le_of_ble_eq_true rfl) ?_
  refine va_putF (D := D) (ci := 8) (v := .ref q_5) (ty := (.array .int)) (C := RX8) (T := TX8) (N := 38) hx hb hts hi_X8_init_8 tyX8 tyX8_ok nmX8 hown hK hP hD hS 0 rfl rfl 14 (by decide) (hts (.fieldLink RX8 38 "TheLiningsInItModel" "lacks" "[I") (List.mem_of_getElem? (i := 14) rfl)) (fun _ h9 => h9) rfl hin rfl (tyX8_ok 14 (Nat.le_of_ble_eq_true rfl)) rfl rfl (Nat.le_of_ble_eq_true rfl) dX8_init_68 (fun H locs hP hD hS => ?_)
  have h9R := zRe (ws' := [(m0, .inr (8, (.int 0 :: .int 20 :: .int 0 :: .int 0 :: .int 0 :: .int 60 :: .int 0 :: .int 3 :: .int 1 :: .int (-1) :: .ref q_1 :: .ref q_2 :: .ref q_3 :: .ref q_4 :: .ref q_5 :: .null :: .null :: .null :: .null :: .null :: .null :: .null :: .null :: .null :: .null :: .null :: .int 0 :: .int 0 :: .int 0 :: .int 0 :: .int 0 :: .null :: .null :: .null :: .null :: .null :: .int 0 :: .int 0 :: []))), (q_1, .inl (cI, 8, .inl (fun _ => 0))), (q_2, .inl (cI, 8, .inl (fun _ => 0))), (q_3, .inl (cI, 8, .inl (fun _ => 0))), (q_4, .inl (cI, 8, .inl (fun _ => 0))), (q_5, .inl (cI, 40, .inl (fun _ => 0)))]) hP hD rfl
  clear hP hD
  obtain ⟨hP, hD⟩ := h9R
  refine lv_aload_n hx hb dX8_init_71 rfl (lv_at hl 0 rfl) ?_
  refine lv_bipush (v := 40) hx hb dX8_init_72 (by decide) ?_
  refine va_newa hx hb (atype := .int) (hts _ (List.mem_of_getElem? (i := 9) rfl)) rfl hK hP hD hS hA (N' := 40) (a0 := (40, .inl (fun _ => 0))) (fun _ => rfl) (by decide) (by decide) (Nat.le_of_ble_eq_true rfl) (Nat.le_of_ble_eq_true rfl) (Nat.le_of_ble_eq_true rfl) dX8_init_74 (fun q_6 cA H hK1 hP hD hS => ?_)
  obtain rfl : cI = cA := zk_eqI (k := 0) hK rfl hK1
  have h9R := zRe (ws' := [(m0, .inr (8, (.int 0 :: .int 20 :: .int 0 :: .int 0 :: .int 0 :: .int 60 :: .int 0 :: .int 3 :: .int 1 :: .int (-1) :: .ref q_1 :: .ref q_2 :: .ref q_3 :: .ref q_4 :: .ref q_5 :: .null :: .null :: .null :: .null :: .null :: .null :: .null :: .null :: .null :: .null :: .null :: .int 0 :: .int 0 :: .int 0 :: .int 0 :: .int 0 :: .null :: .null :: .null :: .null :: .null :: .int 0 :: .int 0 :: []))), (q_1, .inl (cI, 8, .inl (fun _ => 0))), (q_2, .inl (cI, 8, .inl (fun _ => 0))), (q_3, .inl (cI, 8, .inl (fun _ => 0))), (q_4, .inl (cI, 8, .inl (fun _ => 0))), (q_5, .inl (cI, 40, .inl (fun _ => 0))), (q_6, .inl (cI, 40, .inl (fun _ => 0)))]) hP hD rfl
  clear hP hD
  obtain ⟨hP, hD⟩ := h9R
  refine W.widen (k := 6) (n := 112) (Nat.le_of_ble_eq_true rfl) (Nat.le_of_ble_eq_true rfl) ?_
  refine va_putF (D := D) (ci := 8) (v := .ref q_6) (ty := (.array .int)) (C := RX8) (T := TX8) (N := 38) hx hb hts hi_X8_init_8 tyX8 tyX8_ok nmX8 hown hK hP hD hS 0 rfl rfl 15 (by decide) (hts (.fieldLink RX8 41 "TheLiningsInItModel" "slack" "[I") (List.mem_of_getElem? (i := 15) rfl)) (fun _ h9 => h9) rfl hin rfl (tyX8_ok 15 (Nat.le_of_ble_eq_true rfl)) rfl rfl (Nat.le_of_ble_eq_true rfl) dX8_init_76 (fun H locs hP hD hS => ?_)
  have h9R := zRe (ws' := [(m0, .inr (8, (.int 0 :: .int 20 :: .int 0 :: .int 0 :: .int 0 :: .int 60 :: .int 0 :: .int 3 :: .int 1 :: .int (-1) :: .ref q_1 :: .ref q_2 :: .ref q_3 :: .ref q_4 :: .ref q_5 :: .ref q_6 :: .null :: .null :: .null :: .null :: .null :: .null :: .null :: .null :: .null :: .null :: .int 0 :: .int 0 :: .int 0 :: .int 0 :: .int 0 :: .null :: .null :: .null :: .null :: .null :: .int 0 :: .int 0 :: []))), (q_1, .inl (cI, 8, .inl (fun _ => 0))), (q_2, .inl (cI, 8, .inl (fun _ => 0))), (q_3, .inl (cI, 8, .inl (fun _ => 0))), (q_4, .inl (cI, 8, .inl (fun _ => 0))), (q_5, .inl (cI, 40, .inl (fun _ => 0))), (q_6, .inl (cI, 40, .inl (fun _ => 0)))]) hP hD rfl
  clear hP hD
  obtain ⟨hP, hD⟩ := h9R
  refine lv_aload_n hx hb dX8_init_79 rfl (lv_at hl 0 rfl) ?_
  refine lv_iconst (v := 3) hx hb dX8_init_80 (by decide) ?_
  refine va_newa hx hb (atype := .int) (hts _ (List.mem_of_getElem? (i := 9) rfl)) rfl hK hP hD hS hA (N' := 3) (a0 := (3, .inl (fun _ => 0))) (fun _ => rfl) (by decide) (by decide) (Nat.le_of_ble_eq_true rfl) (Nat.le_of_ble_eq_true rfl) (Nat.le_of_ble_eq_true rfl) dX8_init_81 (fun q_7 cA H hK1 hP hD hS => ?_)
  obtain rfl : cI = cA := zk_eqI (k := 0) hK rfl hK1
  have h9R := zRe (ws' := [(m0, .inr (8, (.int 0 :: .int 20 :: .int 0 :: .int 0 :: .int 0 :: .int 60 :: .int 0 :: .int 3 :: .int 1 :: .int (-1) :: .ref q_1 :: .ref q_2 :: .ref q_3 :: .ref q_4 :: .ref q_5 :: .ref q_6 :: .null :: .null :: .null :: .null :: .null :: .null :: .null :: .null :: .null :: .null :: .int 0 :: .int 0 :: .int 0 :: .int 0 :: .int 0 :: .null :: .null :: .null :: .null :: .null :: .int 0 :: .int 0 :: []))), (q_1, .inl (cI, 8, .inl (fun _ => 0))), (q_2, .inl (cI, 8, .inl (fun _ => 0))), (q_3, .inl (cI, 8, .inl (fun _ => 0))), (q_4, .inl (cI, 8, .inl (fun _ => 0))), (q_5, .inl (cI, 40, .inl (fun _ => 0))), (q_6, .inl (cI, 40, .inl (fun _ => 0))), (q_7, .inl (cI, 3, .inl (fun _ => 0)))]) hP hD rfl
  clear hP hD
  obtain ⟨hP, hD⟩ := h9R
  refine W.widen (k := 7) (n := 115) (Nat.le_of_ble_eq_true rfl) (Nat.le_of_ble_eq_true rfl) ?_
  refine lv_dup hx hb dX8_init_83 rfl ?_
  refine lv_iconst (v := 0) hx hb dX8_init_84 (by decide) ?_
  refine lv_iconst (v := 5) hx hb dX8_init_85 (by decide) ?_
  refine va_iast hx hb hK hP hD hS 7 0 rfl rfl (zf_in (by decide) (by decide)) dX8_init_86 (fun H locs hP hD hS => ?_)
  rw [zL3k_0] at hP hD
  have h9R := zRe (ws' := [(m0, .inr (8, (.int 0 :: .int 20 :: .int 0 :: .int 0 :: .int 0 :: .int 60 :: .int 0 :: .int 3 :: .int 1 :: .int (-1) :: .ref q_1 :: .ref q_2 :: .ref q_3 :: .ref q_4 :: .ref q_5 :: .ref q_6 :: .null :: .null :: .null :: .null :: .null :: .null :: .null :: .null :: .null :: .null :: .int 0 :: .int 0 :: .int 0 :: .int 0 :: .int 0 :: .null :: .null :: .null :: .null :: .null :: .int 0 :: .int 0 :: []))), (q_1, .inl (cI, 8, .inl (fun _ => 0))), (q_2, .inl (cI, 8, .inl (fun _ => 0))), (q_3, .inl (cI, 8, .inl (fun _ => 0))), (q_4, .inl (cI, 8, .inl (fun _ => 0))), (q_5, .inl (cI, 40, .inl (fun _ => 0))), (q_6, .inl (cI, 40, .inl (fun _ => 0))), (q_7, .inl (cI, 3, .inl (zL3 5 0 0)))]) hP hD rfl
  clear hP hD
  obtain ⟨hP, hD⟩ := h9R
  refine lv_dup hx hb dX8_init_87 rfl ?_
  refine lv_iconst (v := 1) hx hb dX8_init_88 (by decide) ?_
  refine lv_bipush (v := 10) hx hb dX8_init_89 (by decide) ?_
  refine va_iast hx hb hK hP hD hS 7 0 rfl rfl (zf_in (by decide) (by decide)) dX8_init_91 (fun H locs hP hD hS => ?_)
  rw [zL3_1] at hP hD
  have h9R := zRe (ws' := [(m0, .inr (8, (.int 0 :: .int 20 :: .int 0 :: .int 0 :: .int 0 :: .int 60 :: .int 0 :: .int 3 :: .int 1 :: .int (-1) :: .ref q_1 :: .ref q_2 :: .ref q_3 :: .ref q_4 :: .ref q_5 :: .ref q_6 :: .null :: .null :: .null :: .null :: .null :: .null :: .null :: .null :: .null :: .null :: .int 0 :: .int 0 :: .int 0 :: .int 0 :: .int 0 :: .null :: .null :: .null :: .null :: .null :: .int 0 :: .int 0 :: []))), (q_1, .inl (cI, 8, .inl (fun _ => 0))), (q_2, .inl (cI, 8, .inl (fun _ => 0))), (q_3, .inl (cI, 8, .inl (fun _ => 0))), (q_4, .inl (cI, 8, .inl (fun _ => 0))), (q_5, .inl (cI, 40, .inl (fun _ => 0))), (q_6, .inl (cI, 40, .inl (fun _ => 0))), (q_7, .inl (cI, 3, .inl (zL3 5 10 0)))]) hP hD rfl
  clear hP hD
  obtain ⟨hP, hD⟩ := h9R
  refine lv_dup hx hb dX8_init_92 rfl ?_
  refine lv_iconst (v := 2) hx hb dX8_init_93 (by decide) ?_
  refine lv_bipush (v := 50) hx hb dX8_init_94 (by decide) ?_
  refine va_iast hx hb hK hP hD hS 7 0 rfl rfl (zf_in (by decide) (by decide)) dX8_init_96 (fun H locs hP hD hS => ?_)
  rw [zL3_2] at hP hD
  have h9R := zRe (ws' := [(m0, .inr (8, (.int 0 :: .int 20 :: .int 0 :: .int 0 :: .int 0 :: .int 60 :: .int 0 :: .int 3 :: .int 1 :: .int (-1) :: .ref q_1 :: .ref q_2 :: .ref q_3 :: .ref q_4 :: .ref q_5 :: .ref q_6 :: .null :: .null :: .null :: .null :: .null :: .null :: .null :: .null :: .null :: .null :: .int 0 :: .int 0 :: .int 0 :: .int 0 :: .int 0 :: .null :: .null :: .null :: .null :: .null :: .int 0 :: .int 0 :: []))), (q_1, .inl (cI, 8, .inl (fun _ => 0))), (q_2, .inl (cI, 8, .inl (fun _ => 0))), (q_3, .inl (cI, 8, .inl (fun _ => 0))), (q_4, .inl (cI, 8, .inl (fun _ => 0))), (q_5, .inl (cI, 40, .inl (fun _ => 0))), (q_6, .inl (cI, 40, .inl (fun _ => 0))), (q_7, .inl (cI, 3, .inl (zL3 5 10 50)))]) hP hD rfl
  clear hP hD
  obtain ⟨hP, hD⟩ := h9R
  refine va_putF (D := D) (ci := 8) (v := .ref q_7) (ty := (.array .int)) (C := RX8) (T := TX8) (N := 38) hx hb hts hi_X8_init_8 tyX8 tyX8_ok nmX8 hown hK hP hD hS 0 rfl rfl 16 (by decide) (hts (.fieldLink RX8 44 "TheLiningsInItModel" "cost" "[I") (List.mem_of_getElem? (i := 16) rfl)) (fun _ h9 => h9) rfl hin rfl (tyX8_ok 16 (Nat.le_of_ble_eq_true rfl)) rfl rfl (Nat.le_of_ble_eq_true rfl) dX8_init_97 (fun H locs hP hD hS => ?_)
  have h9R := zRe (ws' := [(m0, .inr (8, (.int 0 :: .int 20 :: .int 0 :: .int 0 :: .int 0 :: .int 60 :: .int 0 :: .int 3 :: .int 1 :: .int (-1) :: .ref q_1 :: .ref q_2 :: .ref q_3 :: .ref q_4 :: .ref q_5 :: .ref q_6 :: .ref q_7 :: .null :: .null :: .null :: .null :: .null :: .null :: .null :: .null :: .null :: .int 0 :: .int 0 :: .int 0 :: .int 0 :: .int 0 :: .null :: .null :: .null :: .null :: .null :: .int 0 :: .int 0 :: []))), (q_1, .inl (cI, 8, .inl (fun _ => 0))), (q_2, .inl (cI, 8, .inl (fun _ => 0))), (q_3, .inl (cI, 8, .inl (fun _ => 0))), (q_4, .inl (cI, 8, .inl (fun _ => 0))), (q_5, .inl (cI, 40, .inl (fun _ => 0))), (q_6, .inl (cI, 40, .inl (fun _ => 0))), (q_7, .inl (cI, 3, .inl (zL3 5 10 50)))]) hP hD rfl
  clear hP hD
  obtain ⟨hP, hD⟩ := h9R
  refine lv_aload_n hx hb dX8_init_100 rfl (lv_at hl 0 rfl) ?_
  refine lv_bipush (v := 8) hx hb dX8_init_101 (by decide) ?_
  refine va_newa hx hb (atype := .int) (hts _ (List.mem_of_getElem? (i := 9) rfl)) rfl hK hP hD hS hA (N' := 8) (a0 := (8, .inl (fun _ => 0))) (fun _ => rfl) (by decide) (by decide) (Nat.le_of_ble_eq_true rfl) (Nat.le_of_ble_eq_true rfl) (Nat.le_of_ble_eq_true rfl) dX8_init_103 (fun q_8 cA H hK1 hP hD hS => ?_)
  obtain rfl : cI = cA := zk_eqI (k := 0) hK rfl hK1
  have h9R := zRe (ws' := [(m0, .inr (8, (.int 0 :: .int 20 :: .int 0 :: .int 0 :: .int 0 :: .int 60 :: .int 0 :: .int 3 :: .int 1 :: .int (-1) :: .ref q_1 :: .ref q_2 :: .ref q_3 :: .ref q_4 :: .ref q_5 :: .ref q_6 :: .ref q_7 :: .null :: .null :: .null :: .null :: .null :: .null :: .null :: .null :: .null :: .int 0 :: .int 0 :: .int 0 :: .int 0 :: .int 0 :: .null :: .null :: .null :: .null :: .null :: .int 0 :: .int 0 :: []))), (q_1, .inl (cI, 8, .inl (fun _ => 0))), (q_2, .inl (cI, 8, .inl (fun _ => 0))), (q_3, .inl (cI, 8, .inl (fun _ => 0))), (q_4, .inl (cI, 8, .inl (fun _ => 0))), (q_5, .inl (cI, 40, .inl (fun _ => 0))), (q_6, .inl (cI, 40, .inl (fun _ => 0))), (q_7, .inl (cI, 3, .inl (zL3 5 10 50))), (q_8, .inl (cI, 8, .inl (fun _ => 0)))]) hP hD rfl
  clear hP hD
  obtain ⟨hP, hD⟩ := h9R
  refine W.widen (k := 8) (n := 123) (Nat.le_of_ble_eq_true rfl) (Nat.le_of_ble_eq_true rfl) ?_
  refine va_putF (D := D) (ci := 8) (v := .ref q_8) (ty := (.array .int)) (C := RX8) (T := TX8) (N := 38) hx hb hts hi_X8_init_8 tyX8 tyX8_ok nmX8 hown hK hP hD hS 0 rfl rfl 17 (by decide) (hts (.fieldLink RX8 47 "TheLiningsInItModel" "held" "[I") (List.mem_of_getElem? (i := 17) rfl)) (fun _ h9 => h9) rfl hin rfl (tyX8_ok 17 (Nat.le_of_ble_eq_true rfl)) rfl rfl (Nat.le_of_ble_eq_true rfl) dX8_init_105 (fun H locs hP hD hS => ?_)
  have h9R := zRe (ws' := [(m0, .inr (8, (.int 0 :: .int 20 :: .int 0 :: .int 0 :: .int 0 :: .int 60 :: .int 0 :: .int 3 :: .int 1 :: .int (-1) :: .ref q_1 :: .ref q_2 :: .ref q_3 :: .ref q_4 :: .ref q_5 :: .ref q_6 :: .ref q_7 :: .ref q_8 :: .null :: .null :: .null :: .null :: .null :: .null :: .null :: .null :: .int 0 :: .int 0 :: .int 0 :: .int 0 :: .int 0 :: .null :: .null :: .null :: .null :: .null :: .int 0 :: .int 0 :: []))), (q_1, .inl (cI, 8, .inl (fun _ => 0))), (q_2, .inl (cI, 8, .inl (fun _ => 0))), (q_3, .inl (cI, 8, .inl (fun _ => 0))), (q_4, .inl (cI, 8, .inl (fun _ => 0))), (q_5, .inl (cI, 40, .inl (fun _ => 0))), (q_6, .inl (cI, 40, .inl (fun _ => 0))), (q_7, .inl (cI, 3, .inl (zL3 5 10 50))), (q_8, .inl (cI, 8, .inl (fun _ => 0)))]) hP hD rfl
  clear hP hD
  obtain ⟨hP, hD⟩ := h9R
  refine lv_aload_n hx hb dX8_init_108 rfl (lv_at hl 0 rfl) ?_
  refine lv_bipush (v := 8) hx hb dX8_init_109 (by decide) ?_
  refine va_newa hx hb (atype := .int) (hts _ (List.mem_of_getElem? (i := 9) rfl)) rfl hK hP hD hS hA (N' := 8) (a0 := (8, .inl (fun _ => 0))) (fun _ => rfl) (by decide) (by decide) (Nat.le_of_ble_eq_true rfl) (Nat.le_of_ble_eq_true rfl) (Nat.le_of_ble_eq_true rfl) dX8_init_111 (fun q_9 cA H hK1 hP hD hS => ?_)
  obtain rfl : cI = cA := zk_eqI (k := 0) hK rfl hK1
  have h9R := zRe (ws' := [(m0, .inr (8, (.int 0 :: .int 20 :: .int 0 :: .int 0 :: .int 0 :: .int 60 :: .int 0 :: .int 3 :: .int 1 :: .int (-1) :: .ref q_1 :: .ref q_2 :: .ref q_3 :: .ref q_4 :: .ref q_5 :: .ref q_6 :: .ref q_7 :: .ref q_8 :: .null :: .null :: .null :: .null :: .null :: .null :: .null :: .null :: .int 0 :: .int 0 :: .int 0 :: .int 0 :: .int 0 :: .null :: .null :: .null :: .null :: .null :: .int 0 :: .int 0 :: []))), (q_1, .inl (cI, 8, .inl (fun _ => 0))), (q_2, .inl (cI, 8, .inl (fun _ => 0))), (q_3, .inl (cI, 8, .inl (fun _ => 0))), (q_4, .inl (cI, 8, .inl (fun _ => 0))), (q_5, .inl (cI, 40, .inl (fun _ => 0))), (q_6, .inl (cI, 40, .inl (fun _ => 0))), (q_7, .inl (cI, 3, .inl (zL3 5 10 50))), (q_8, .inl (cI, 8, .inl (fun _ => 0))), (q_9, .inl (cI, 8, .inl (fun _ => 0)))]) hP hD rfl
  clear hP hD
  obtain ⟨hP, hD⟩ := h9R
  refine W.widen (k := 9) (n := 131) (Nat.le_of_ble_eq_true rfl) (Nat.le_of_ble_eq_true rfl) ?_
  refine va_putF (D := D) (ci := 8) (v := .ref q_9) (ty := (.array .int)) (C := RX8) (T := TX8) (N := 38) hx hb hts hi_X8_init_8 tyX8 tyX8_ok nmX8 hown hK hP hD hS 0 rfl rfl 18 (by decide) (hts (.fieldLink RX8 50 "TheLiningsInItModel" "sort" "[I") (List.mem_of_getElem? (i := 18) rfl)) (fun _ h9 => h9) rfl hin rfl (tyX8_ok 18 (Nat.le_of_ble_eq_true rfl)) rfl rfl (Nat.le_of_ble_eq_true rfl) dX8_init_113 (fun H locs hP hD hS => ?_)
  have h9R := zRe (ws' := [(m0, .inr (8, (.int 0 :: .int 20 :: .int 0 :: .int 0 :: .int 0 :: .int 60 :: .int 0 :: .int 3 :: .int 1 :: .int (-1) :: .ref q_1 :: .ref q_2 :: .ref q_3 :: .ref q_4 :: .ref q_5 :: .ref q_6 :: .ref q_7 :: .ref q_8 :: .ref q_9 :: .null :: .null :: .null :: .null :: .null :: .null :: .null :: .int 0 :: .int 0 :: .int 0 :: .int 0 :: .int 0 :: .null :: .null :: .null :: .null :: .null :: .int 0 :: .int 0 :: []))), (q_1, .inl (cI, 8, .inl (fun _ => 0))), (q_2, .inl (cI, 8, .inl (fun _ => 0))), (q_3, .inl (cI, 8, .inl (fun _ => 0))), (q_4, .inl (cI, 8, .inl (fun _ => 0))), (q_5, .inl (cI, 40, .inl (fun _ => 0))), (q_6, .inl (cI, 40, .inl (fun _ => 0))), (q_7, .inl (cI, 3, .inl (zL3 5 10 50))), (q_8, .inl (cI, 8, .inl (fun _ => 0))), (q_9, .inl (cI, 8, .inl (fun _ => 0)))]) hP hD rfl
  clear hP hD
  obtain ⟨hP, hD⟩ := h9R
  refine lv_aload_n hx hb dX8_init_116 rfl (lv_at hl 0 rfl) ?_
  refine lv_bipush (v := 8) hx hb dX8_init_117 (by decide) ?_
  refine va_newa hx hb (atype := .int) (hts _ (List.mem_of_getElem? (i := 9) rfl)) rfl hK hP hD hS hA (N' := 8) (a0 := (8, .inl (fun _ => 0))) (fun _ => rfl) (by decide) (by decide) (Nat.le_of_ble_eq_true rfl) (Nat.le_of_ble_eq_true rfl) (Nat.le_of_ble_eq_true rfl) dX8_init_119 (fun q_10 cA H hK1 hP hD hS => ?_)
  obtain rfl : cI = cA := zk_eqI (k := 0) hK rfl hK1
  have h9R := zRe (ws' := [(m0, .inr (8, (.int 0 :: .int 20 :: .int 0 :: .int 0 :: .int 0 :: .int 60 :: .int 0 :: .int 3 :: .int 1 :: .int (-1) :: .ref q_1 :: .ref q_2 :: .ref q_3 :: .ref q_4 :: .ref q_5 :: .ref q_6 :: .ref q_7 :: .ref q_8 :: .ref q_9 :: .null :: .null :: .null :: .null :: .null :: .null :: .null :: .int 0 :: .int 0 :: .int 0 :: .int 0 :: .int 0 :: .null :: .null :: .null :: .null :: .null :: .int 0 :: .int 0 :: []))), (q_1, .inl (cI, 8, .inl (fun _ => 0))), (q_2, .inl (cI, 8, .inl (fun _ => 0))), (q_3, .inl (cI, 8, .inl (fun _ => 0))), (q_4, .inl (cI, 8, .inl (fun _ => 0))), (q_5, .inl (cI, 40, .inl (fun _ => 0))), (q_6, .inl (cI, 40, .inl (fun _ => 0))), (q_7, .inl (cI, 3, .inl (zL3 5 10 50))), (q_8, .inl (cI, 8, .inl (fun _ => 0))), (q_9, .inl (cI, 8, .inl (fun _ => 0))), (q_10, .inl (cI, 8, .inl (fun _ => 0)))]) hP hD rfl
  clear hP hD
  obtain ⟨hP, hD⟩ := h9R
  refine W.widen (k := 10) (n := 139) (Nat.le_of_ble_eq_true rfl) (Nat.le_of_ble_eq_true rfl) ?_
  refine va_putF (D := D) (ci := 8) (v := .ref q_10) (ty := (.array .int)) (C := RX8) (T := TX8) (N := 38) hx hb hts hi_X8_init_8 tyX8 tyX8_ok nmX8 hown hK hP hD hS 0 rfl rfl 19 (by decide) (hts (.fieldLink RX8 53 "TheLiningsInItModel" "size" "[I") (List.mem_of_getElem? (i := 19) rfl)) (fun _ h9 => h9) rfl hin rfl (tyX8_ok 19 (Nat.le_of_ble_eq_true rfl)) rfl rfl (Nat.le_of_ble_eq_true rfl) dX8_init_121 (fun H locs hP hD hS => ?_)
  have h9R := zRe (ws' := [(m0, .inr (8, (.int 0 :: .int 20 :: .int 0 :: .int 0 :: .int 0 :: .int 60 :: .int 0 :: .int 3 :: .int 1 :: .int (-1) :: .ref q_1 :: .ref q_2 :: .ref q_3 :: .ref q_4 :: .ref q_5 :: .ref q_6 :: .ref q_7 :: .ref q_8 :: .ref q_9 :: .ref q_10 :: .null :: .null :: .null :: .null :: .null :: .null :: .int 0 :: .int 0 :: .int 0 :: .int 0 :: .int 0 :: .null :: .null :: .null :: .null :: .null :: .int 0 :: .int 0 :: []))), (q_1, .inl (cI, 8, .inl (fun _ => 0))), (q_2, .inl (cI, 8, .inl (fun _ => 0))), (q_3, .inl (cI, 8, .inl (fun _ => 0))), (q_4, .inl (cI, 8, .inl (fun _ => 0))), (q_5, .inl (cI, 40, .inl (fun _ => 0))), (q_6, .inl (cI, 40, .inl (fun _ => 0))), (q_7, .inl (cI, 3, .inl (zL3 5 10 50))), (q_8, .inl (cI, 8, .inl (fun _ => 0))), (q_9, .inl (cI, 8, .inl (fun _ => 0))), (q_10, .inl (cI, 8, .inl (fun _ => 0)))]) hP hD rfl
  clear hP hD
  obtain ⟨hP, hD⟩ := h9R
  refine lv_aload_n hx hb dX8_init_124 rfl (lv_at hl 0 rfl) ?_
  refine lv_bipush (v := 8) hx hb dX8_init_125 (by decide) ?_
  refine va_newa hx hb (atype := .int) (hts _ (List.mem_of_getElem? (i := 9) rfl)) rfl hK hP hD hS hA (N' := 8) (a0 := (8, .inl (fun _ => 0))) (fun _ => rfl) (by decide) (by decide) (Nat.le_of_ble_eq_true rfl) (Nat.le_of_ble_eq_true rfl) (Nat.le_of_ble_eq_true rfl) dX8_init_127 (fun q_11 cA H hK1 hP hD hS => ?_)
  obtain rfl : cI = cA := zk_eqI (k := 0) hK rfl hK1
  have h9R := zRe (ws' := [(m0, .inr (8, (.int 0 :: .int 20 :: .int 0 :: .int 0 :: .int 0 :: .int 60 :: .int 0 :: .int 3 :: .int 1 :: .int (-1) :: .ref q_1 :: .ref q_2 :: .ref q_3 :: .ref q_4 :: .ref q_5 :: .ref q_6 :: .ref q_7 :: .ref q_8 :: .ref q_9 :: .ref q_10 :: .null :: .null :: .null :: .null :: .null :: .null :: .int 0 :: .int 0 :: .int 0 :: .int 0 :: .int 0 :: .null :: .null :: .null :: .null :: .null :: .int 0 :: .int 0 :: []))), (q_1, .inl (cI, 8, .inl (fun _ => 0))), (q_2, .inl (cI, 8, .inl (fun _ => 0))), (q_3, .inl (cI, 8, .inl (fun _ => 0))), (q_4, .inl (cI, 8, .inl (fun _ => 0))), (q_5, .inl (cI, 40, .inl (fun _ => 0))), (q_6, .inl (cI, 40, .inl (fun _ => 0))), (q_7, .inl (cI, 3, .inl (zL3 5 10 50))), (q_8, .inl (cI, 8, .inl (fun _ => 0))), (q_9, .inl (cI, 8, .inl (fun _ => 0))), (q_10, .inl (cI, 8, .inl (fun _ => 0))), (q_11, .inl (cI, 8, .inl (fun _ => 0)))]) hP hD rfl
  clear hP hD
  obtain ⟨hP, hD⟩ := h9R
  refine W.widen (k := 11) (n := 147) (Nat.le_of_ble_eq_true rfl) (Nat.le_of_ble_eq_true rfl) ?_
  refine va_putF (D := D) (ci := 8) (v := .ref q_11) (ty := (.array .int)) (C := RX8) (T := TX8) (N := 38) hx hb hts hi_X8_init_8 tyX8 tyX8_ok nmX8 hown hK hP hD hS 0 rfl rfl 20 (by decide) (hts (.fieldLink RX8 56 "TheLiningsInItModel" "shown" "[I") (List.mem_of_getElem? (i := 20) rfl)) (fun _ h9 => h9) rfl hin rfl (tyX8_ok 20 (Nat.le_of_ble_eq_true rfl)) rfl rfl (Nat.le_of_ble_eq_true rfl) dX8_init_129 (fun H locs hP hD hS => ?_)
  have h9R := zRe (ws' := [(m0, .inr (8, (.int 0 :: .int 20 :: .int 0 :: .int 0 :: .int 0 :: .int 60 :: .int 0 :: .int 3 :: .int 1 :: .int (-1) :: .ref q_1 :: .ref q_2 :: .ref q_3 :: .ref q_4 :: .ref q_5 :: .ref q_6 :: .ref q_7 :: .ref q_8 :: .ref q_9 :: .ref q_10 :: .ref q_11 :: .null :: .null :: .null :: .null :: .null :: .int 0 :: .int 0 :: .int 0 :: .int 0 :: .int 0 :: .null :: .null :: .null :: .null :: .null :: .int 0 :: .int 0 :: []))), (q_1, .inl (cI, 8, .inl (fun _ => 0))), (q_2, .inl (cI, 8, .inl (fun _ => 0))), (q_3, .inl (cI, 8, .inl (fun _ => 0))), (q_4, .inl (cI, 8, .inl (fun _ => 0))), (q_5, .inl (cI, 40, .inl (fun _ => 0))), (q_6, .inl (cI, 40, .inl (fun _ => 0))), (q_7, .inl (cI, 3, .inl (zL3 5 10 50))), (q_8, .inl (cI, 8, .inl (fun _ => 0))), (q_9, .inl (cI, 8, .inl (fun _ => 0))), (q_10, .inl (cI, 8, .inl (fun _ => 0))), (q_11, .inl (cI, 8, .inl (fun _ => 0)))]) hP hD rfl
  clear hP hD
  obtain ⟨hP, hD⟩ := h9R
  refine lv_aload_n hx hb dX8_init_132 rfl (lv_at hl 0 rfl) ?_
  refine lv_sipush (v := 1280) hx hb dX8_init_133 (by decide) ?_
  refine va_newa hx hb (atype := .long) (hts _ (List.mem_of_getElem? (i := 21) rfl)) rfl hK hP hD hS hA (N' := 1280) (a0 := (1280, .inr (.inl (fun _ => 0)))) (fun _ => rfl) (by decide) (by decide) (Nat.le_of_ble_eq_true rfl) (Nat.le_of_ble_eq_true rfl) (Nat.le_of_ble_eq_true rfl) dX8_init_136 (fun q_12 cA H hK1 hP hD hS => ?_)
  obtain rfl : cJ = cA := zk_eqJ (k := 1) hK rfl hK1
  have h9R := zRe (ws' := [(m0, .inr (8, (.int 0 :: .int 20 :: .int 0 :: .int 0 :: .int 0 :: .int 60 :: .int 0 :: .int 3 :: .int 1 :: .int (-1) :: .ref q_1 :: .ref q_2 :: .ref q_3 :: .ref q_4 :: .ref q_5 :: .ref q_6 :: .ref q_7 :: .ref q_8 :: .ref q_9 :: .ref q_10 :: .ref q_11 :: .null :: .null :: .null :: .null :: .null :: .int 0 :: .int 0 :: .int 0 :: .int 0 :: .int 0 :: .null :: .null :: .null :: .null :: .null :: .int 0 :: .int 0 :: []))), (q_1, .inl (cI, 8, .inl (fun _ => 0))), (q_2, .inl (cI, 8, .inl (fun _ => 0))), (q_3, .inl (cI, 8, .inl (fun _ => 0))), (q_4, .inl (cI, 8, .inl (fun _ => 0))), (q_5, .inl (cI, 40, .inl (fun _ => 0))), (q_6, .inl (cI, 40, .inl (fun _ => 0))), (q_7, .inl (cI, 3, .inl (zL3 5 10 50))), (q_8, .inl (cI, 8, .inl (fun _ => 0))), (q_9, .inl (cI, 8, .inl (fun _ => 0))), (q_10, .inl (cI, 8, .inl (fun _ => 0))), (q_11, .inl (cI, 8, .inl (fun _ => 0))), (q_12, .inl (cJ, 1280, .inr (.inl (fun _ => 0))))]) hP hD rfl
  clear hP hD
  obtain ⟨hP, hD⟩ := h9R
  refine W.widen (k := 12) (n := 1427) (Nat.le_of_ble_eq_true rfl) (Nat.le_of_ble_eq_true rfl) ?_
  refine va_putF (D := D) (ci := 8) (v := .ref q_12) (ty := (.array .long)) (C := RX8) (T := TX8) (N := 38) hx hb hts hi_X8_init_8 tyX8 tyX8_ok nmX8 hown hK hP hD hS 0 rfl rfl 21 (by decide) (hts (.fieldLink RX8 59 "TheLiningsInItModel" "cells" "[J") (List.mem_of_getElem? (i := 22) rfl)) (fun _ h9 => h9) rfl hin rfl (tyX8_ok 21 (Nat.le_of_ble_eq_true rfl)) rfl rfl (Nat.le_of_ble_eq_true rfl) dX8_init_138 (fun H locs hP hD hS => ?_)
  have h9R := zRe (ws' := [(m0, .inr (8, (.int 0 :: .int 20 :: .int 0 :: .int 0 :: .int 0 :: .int 60 :: .int 0 :: .int 3 :: .int 1 :: .int (-1) :: .ref q_1 :: .ref q_2 :: .ref q_3 :: .ref q_4 :: .ref q_5 :: .ref q_6 :: .ref q_7 :: .ref q_8 :: .ref q_9 :: .ref q_10 :: .ref q_11 :: .ref q_12 :: .null :: .null :: .null :: .null :: .int 0 :: .int 0 :: .int 0 :: .int 0 :: .int 0 :: .null :: .null :: .null :: .null :: .null :: .int 0 :: .int 0 :: []))), (q_1, .inl (cI, 8, .inl (fun _ => 0))), (q_2, .inl (cI, 8, .inl (fun _ => 0))), (q_3, .inl (cI, 8, .inl (fun _ => 0))), (q_4, .inl (cI, 8, .inl (fun _ => 0))), (q_5, .inl (cI, 40, .inl (fun _ => 0))), (q_6, .inl (cI, 40, .inl (fun _ => 0))), (q_7, .inl (cI, 3, .inl (zL3 5 10 50))), (q_8, .inl (cI, 8, .inl (fun _ => 0))), (q_9, .inl (cI, 8, .inl (fun _ => 0))), (q_10, .inl (cI, 8, .inl (fun _ => 0))), (q_11, .inl (cI, 8, .inl (fun _ => 0))), (q_12, .inl (cJ, 1280, .inr (.inl (fun _ => 0))))]) hP hD rfl
  clear hP hD
  obtain ⟨hP, hD⟩ := h9R
  refine lv_aload_n hx hb dX8_init_141 rfl (lv_at hl 0 rfl) ?_
  refine lv_sipush (v := 160) hx hb dX8_init_142 (by decide) ?_
  refine va_newa hx hb (atype := .long) (hts _ (List.mem_of_getElem? (i := 21) rfl)) rfl hK hP hD hS hA (N' := 160) (a0 := (160, .inr (.inl (fun _ => 0)))) (fun _ => rfl) (by decide) (by decide) (Nat.le_of_ble_eq_true rfl) (Nat.le_of_ble_eq_true rfl) (Nat.le_of_ble_eq_true rfl) dX8_init_145 (fun q_13 cA H hK1 hP hD hS => ?_)
  obtain rfl : cJ = cA := zk_eqJ (k := 1) hK rfl hK1
  have h9R := zRe (ws' := [(m0, .inr (8, (.int 0 :: .int 20 :: .int 0 :: .int 0 :: .int 0 :: .int 60 :: .int 0 :: .int 3 :: .int 1 :: .int (-1) :: .ref q_1 :: .ref q_2 :: .ref q_3 :: .ref q_4 :: .ref q_5 :: .ref q_6 :: .ref q_7 :: .ref q_8 :: .ref q_9 :: .ref q_10 :: .ref q_11 :: .ref q_12 :: .null :: .null :: .null :: .null :: .int 0 :: .int 0 :: .int 0 :: .int 0 :: .int 0 :: .null :: .null :: .null :: .null :: .null :: .int 0 :: .int 0 :: []))), (q_1, .inl (cI, 8, .inl (fun _ => 0))), (q_2, .inl (cI, 8, .inl (fun _ => 0))), (q_3, .inl (cI, 8, .inl (fun _ => 0))), (q_4, .inl (cI, 8, .inl (fun _ => 0))), (q_5, .inl (cI, 40, .inl (fun _ => 0))), (q_6, .inl (cI, 40, .inl (fun _ => 0))), (q_7, .inl (cI, 3, .inl (zL3 5 10 50))), (q_8, .inl (cI, 8, .inl (fun _ => 0))), (q_9, .inl (cI, 8, .inl (fun _ => 0))), (q_10, .inl (cI, 8, .inl (fun _ => 0))), (q_11, .inl (cI, 8, .inl (fun _ => 0))), (q_12, .inl (cJ, 1280, .inr (.inl (fun _ => 0)))), (q_13, .inl (cJ, 160, .inr (.inl (fun _ => 0))))]) hP hD rfl
  clear hP hD
  obtain ⟨hP, hD⟩ := h9R
  refine W.widen (k := 13) (n := 1587) (Nat.le_of_ble_eq_true rfl) (Nat.le_of_ble_eq_true rfl) ?_
  refine va_putF (D := D) (ci := 8) (v := .ref q_13) (ty := (.array .long)) (C := RX8) (T := TX8) (N := 38) hx hb hts hi_X8_init_8 tyX8 tyX8_ok nmX8 hown hK hP hD hS 0 rfl rfl 22 (by decide) (hts (.fieldLink RX8 63 "TheLiningsInItModel" "carried" "[J") (List.mem_of_getElem? (i := 23) rfl)) (fun _ h9 => h9) rfl hin rfl (tyX8_ok 22 (Nat.le_of_ble_eq_true rfl)) rfl rfl (Nat.le_of_ble_eq_true rfl) dX8_init_147 (fun H locs hP hD hS => ?_)
  have h9R := zRe (ws' := [(m0, .inr (8, (.int 0 :: .int 20 :: .int 0 :: .int 0 :: .int 0 :: .int 60 :: .int 0 :: .int 3 :: .int 1 :: .int (-1) :: .ref q_1 :: .ref q_2 :: .ref q_3 :: .ref q_4 :: .ref q_5 :: .ref q_6 :: .ref q_7 :: .ref q_8 :: .ref q_9 :: .ref q_10 :: .ref q_11 :: .ref q_12 :: .ref q_13 :: .null :: .null :: .null :: .int 0 :: .int 0 :: .int 0 :: .int 0 :: .int 0 :: .null :: .null :: .null :: .null :: .null :: .int 0 :: .int 0 :: []))), (q_1, .inl (cI, 8, .inl (fun _ => 0))), (q_2, .inl (cI, 8, .inl (fun _ => 0))), (q_3, .inl (cI, 8, .inl (fun _ => 0))), (q_4, .inl (cI, 8, .inl (fun _ => 0))), (q_5, .inl (cI, 40, .inl (fun _ => 0))), (q_6, .inl (cI, 40, .inl (fun _ => 0))), (q_7, .inl (cI, 3, .inl (zL3 5 10 50))), (q_8, .inl (cI, 8, .inl (fun _ => 0))), (q_9, .inl (cI, 8, .inl (fun _ => 0))), (q_10, .inl (cI, 8, .inl (fun _ => 0))), (q_11, .inl (cI, 8, .inl (fun _ => 0))), (q_12, .inl (cJ, 1280, .inr (.inl (fun _ => 0)))), (q_13, .inl (cJ, 160, .inr (.inl (fun _ => 0))))]) hP hD rfl
  clear hP hD
  obtain ⟨hP, hD⟩ := h9R
  refine lv_aload_n hx hb dX8_init_150 rfl (lv_at hl 0 rfl) ?_
  refine lv_bipush (v := 64) hx hb dX8_init_151 (by decide) ?_
  refine va_newa hx hb (atype := .int) (hts _ (List.mem_of_getElem? (i := 9) rfl)) rfl hK hP hD hS hA (N' := 64) (a0 := (64, .inl (fun _ => 0))) (fun _ => rfl) (by decide) (by decide) (Nat.le_of_ble_eq_true rfl) (Nat.le_of_ble_eq_true rfl) (Nat.le_of_ble_eq_true rfl) dX8_init_153 (fun q_14 cA H hK1 hP hD hS => ?_)
  obtain rfl : cI = cA := zk_eqI (k := 0) hK rfl hK1
  have h9R := zRe (ws' := [(m0, .inr (8, (.int 0 :: .int 20 :: .int 0 :: .int 0 :: .int 0 :: .int 60 :: .int 0 :: .int 3 :: .int 1 :: .int (-1) :: .ref q_1 :: .ref q_2 :: .ref q_3 :: .ref q_4 :: .ref q_5 :: .ref q_6 :: .ref q_7 :: .ref q_8 :: .ref q_9 :: .ref q_10 :: .ref q_11 :: .ref q_12 :: .ref q_13 :: .null :: .null :: .null :: .int 0 :: .int 0 :: .int 0 :: .int 0 :: .int 0 :: .null :: .null :: .null :: .null :: .null :: .int 0 :: .int 0 :: []))), (q_1, .inl (cI, 8, .inl (fun _ => 0))), (q_2, .inl (cI, 8, .inl (fun _ => 0))), (q_3, .inl (cI, 8, .inl (fun _ => 0))), (q_4, .inl (cI, 8, .inl (fun _ => 0))), (q_5, .inl (cI, 40, .inl (fun _ => 0))), (q_6, .inl (cI, 40, .inl (fun _ => 0))), (q_7, .inl (cI, 3, .inl (zL3 5 10 50))), (q_8, .inl (cI, 8, .inl (fun _ => 0))), (q_9, .inl (cI, 8, .inl (fun _ => 0))), (q_10, .inl (cI, 8, .inl (fun _ => 0))), (q_11, .inl (cI, 8, .inl (fun _ => 0))), (q_12, .inl (cJ, 1280, .inr (.inl (fun _ => 0)))), (q_13, .inl (cJ, 160, .inr (.inl (fun _ => 0)))), (q_14, .inl (cI, 64, .inl (fun _ => 0)))]) hP hD rfl
  clear hP hD
  obtain ⟨hP, hD⟩ := h9R
  refine W.widen (k := 14) (n := 1651) (Nat.le_of_ble_eq_true rfl) (Nat.le_of_ble_eq_true rfl) ?_
  refine lv_dup hx hb dX8_init_155 rfl ?_
  refine lv_iconst (v := 0) hx hb dX8_init_156 (by decide) ?_
  refine lv_bipush (v := 116) hx hb dX8_init_157 (by decide) ?_
  refine va_iast hx hb hK hP hD hS 14 0 rfl rfl (zf_in (by decide) (by decide)) dX8_init_159 (fun H locs hP hD hS => ?_)
  refine lv_dup hx hb dX8_init_160 rfl ?_
  refine lv_iconst (v := 1) hx hb dX8_init_161 (by decide) ?_
  refine lv_bipush (v := 101) hx hb dX8_init_162 (by decide) ?_
  refine va_iast hx hb hK hP hD hS 14 0 rfl rfl (zf_in (by decide) (by decide)) dX8_init_164 (fun H locs hP hD hS => ?_)
  refine lv_dup hx hb dX8_init_165 rfl ?_
  refine lv_iconst (v := 2) hx hb dX8_init_166 (by decide) ?_
  refine lv_bipush (v := 101) hx hb dX8_init_167 (by decide) ?_
  refine va_iast hx hb hK hP hD hS 14 0 rfl rfl (zf_in (by decide) (by decide)) dX8_init_169 (fun H locs hP hD hS => ?_)
  refine lv_dup hx hb dX8_init_170 rfl ?_
  refine lv_iconst (v := 3) hx hb dX8_init_171 (by decide) ?_
  refine lv_bipush (v := 116) hx hb dX8_init_172 (by decide) ?_
  refine va_iast hx hb hK hP hD hS 14 0 rfl rfl (zf_in (by decide) (by decide)) dX8_init_174 (fun H locs hP hD hS => ?_)
  refine lv_dup hx hb dX8_init_175 rfl ?_
  refine lv_iconst (v := 4) hx hb dX8_init_176 (by decide) ?_
  refine lv_bipush (v := 104) hx hb dX8_init_177 (by decide) ?_
  refine va_iast hx hb hK hP hD hS 14 0 rfl rfl (zf_in (by decide) (by decide)) dX8_init_179 (fun H locs hP hD hS => ?_)
  refine lv_dup hx hb dX8_init_180 rfl ?_
  refine lv_iconst (v := 5) hx hb dX8_init_181 (by decide) ?_
  refine lv_bipush (v := 32) hx hb dX8_init_182 (by decide) ?_
  refine va_iast hx hb hK hP hD hS 14 0 rfl rfl (zf_in (by decide) (by decide)) dX8_init_184 (fun H locs hP hD hS => ?_)
  have h9R := zRe (ws' := [(m0, .inr (8, (.int 0 :: .int 20 :: .int 0 :: .int 0 :: .int 0 :: .int 60 :: .int 0 :: .int 3 :: .int 1 :: .int (-1) :: .ref q_1 :: .ref q_2 :: .ref q_3 :: .ref q_4 :: .ref q_5 :: .ref q_6 :: .ref q_7 :: .ref q_8 :: .ref q_9 :: .ref q_10 :: .ref q_11 :: .ref q_12 :: .ref q_13 :: .null :: .null :: .null :: .int 0 :: .int 0 :: .int 0 :: .int 0 :: .int 0 :: .null :: .null :: .null :: .null :: .null :: .int 0 :: .int 0 :: []))), (q_1, .inl (cI, 8, .inl (fun _ => 0))), (q_2, .inl (cI, 8, .inl (fun _ => 0))), (q_3, .inl (cI, 8, .inl (fun _ => 0))), (q_4, .inl (cI, 8, .inl (fun _ => 0))), (q_5, .inl (cI, 40, .inl (fun _ => 0))), (q_6, .inl (cI, 40, .inl (fun _ => 0))), (q_7, .inl (cI, 3, .inl (zL3 5 10 50))), (q_8, .inl (cI, 8, .inl (fun _ => 0))), (q_9, .inl (cI, 8, .inl (fun _ => 0))), (q_10, .inl (cI, 8, .inl (fun _ => 0))), (q_11, .inl (cI, 8, .inl (fun _ => 0))), (q_12, .inl (cJ, 1280, .inr (.inl (fun _ => 0)))), (q_13, .inl (cJ, 160, .inr (.inl (fun _ => 0)))), (q_14, .inl (cI, 64, .inl (upd (upd (upd (upd (upd (upd (fun _ => 0) (0 : Int32).toNatClampNeg 116) (1 : Int32).toNatClampNeg 101) (2 : Int32).toNatClampNeg 101) (3 : Int32).toNatClampNeg 116) (4 : Int32).toNatClampNeg 104) (5 : Int32).toNatClampNeg 32)))]) hP hD rfl
  clear hP hD
  obtain ⟨hP, hD⟩ := h9R
  refine lv_dup hx hb dX8_init_185 rfl ?_
  refine lv_bipush (v := 6) hx hb dX8_init_186 (by decide) ?_
  refine lv_iconst (v := 0) hx hb dX8_init_188 (by decide) ?_
  refine va_iast hx hb hK hP hD hS 14 0 rfl rfl (zf_in (by decide) (by decide)) dX8_init_189 (fun H locs hP hD hS => ?_)
  refine lv_dup hx hb dX8_init_190 rfl ?_
  refine lv_bipush (v := 7) hx hb dX8_init_191 (by decide) ?_
  refine lv_bipush (v := 108) hx hb dX8_init_193 (by decide) ?_
  refine va_iast hx hb hK hP hD hS 14 0 rfl rfl (zf_in (by decide) (by decide)) dX8_init_195 (fun H locs hP hD hS => ?_)
  refine lv_dup hx hb dX8_init_196 rfl ?_
  refine lv_bipush (v := 8) hx hb dX8_init_197 (by decide) ?_
  refine lv_bipush (v := 97) hx hb dX8_init_199 (by decide) ?_
  refine va_iast hx hb hK hP hD hS 14 0 rfl rfl (zf_in (by decide) (by decide)) dX8_init_201 (fun H locs hP hD hS => ?_)
  refine lv_dup hx hb dX8_init_202 rfl ?_
  refine lv_bipush (v := 9) hx hb dX8_init_203 (by decide) ?_
  refine lv_bipush (v := 99) hx hb dX8_init_205 (by decide) ?_
  refine va_iast hx hb hK hP hD hS 14 0 rfl rfl (zf_in (by decide) (by decide)) dX8_init_207 (fun H locs hP hD hS => ?_)
  refine lv_dup hx hb dX8_init_208 rfl ?_
  refine lv_bipush (v := 10) hx hb dX8_init_209 (by decide) ?_
  refine lv_bipush (v := 107) hx hb dX8_init_211 (by decide) ?_
  refine va_iast hx hb hK hP hD hS 14 0 rfl rfl (zf_in (by decide) (by decide)) dX8_init_213 (fun H locs hP hD hS => ?_)
  refine lv_dup hx hb dX8_init_214 rfl ?_
  refine lv_bipush (v := 11) hx hb dX8_init_215 (by decide) ?_
  refine lv_bipush (v := 32) hx hb dX8_init_217 (by decide) ?_
  refine va_iast hx hb hK hP hD hS 14 0 rfl rfl (zf_in (by decide) (by decide)) dX8_init_219 (fun H locs hP hD hS => ?_)
  have h9R := zRe (ws' := [(m0, .inr (8, (.int 0 :: .int 20 :: .int 0 :: .int 0 :: .int 0 :: .int 60 :: .int 0 :: .int 3 :: .int 1 :: .int (-1) :: .ref q_1 :: .ref q_2 :: .ref q_3 :: .ref q_4 :: .ref q_5 :: .ref q_6 :: .ref q_7 :: .ref q_8 :: .ref q_9 :: .ref q_10 :: .ref q_11 :: .ref q_12 :: .ref q_13 :: .null :: .null :: .null :: .int 0 :: .int 0 :: .int 0 :: .int 0 :: .int 0 :: .null :: .null :: .null :: .null :: .null :: .int 0 :: .int 0 :: []))), (q_1, .inl (cI, 8, .inl (fun _ => 0))), (q_2, .inl (cI, 8, .inl (fun _ => 0))), (q_3, .inl (cI, 8, .inl (fun _ => 0))), (q_4, .inl (cI, 8, .inl (fun _ => 0))), (q_5, .inl (cI, 40, .inl (fun _ => 0))), (q_6, .inl (cI, 40, .inl (fun _ => 0))), (q_7, .inl (cI, 3, .inl (zL3 5 10 50))), (q_8, .inl (cI, 8, .inl (fun _ => 0))), (q_9, .inl (cI, 8, .inl (fun _ => 0))), (q_10, .inl (cI, 8, .inl (fun _ => 0))), (q_11, .inl (cI, 8, .inl (fun _ => 0))), (q_12, .inl (cJ, 1280, .inr (.inl (fun _ => 0)))), (q_13, .inl (cJ, 160, .inr (.inl (fun _ => 0)))), (q_14, .inl (cI, 64, .inl (upd (upd (upd (upd (upd (upd (upd (upd (upd (upd (upd (upd (fun _ => 0) (0 : Int32).toNatClampNeg 116) (1 : Int32).toNatClampNeg 101) (2 : Int32).toNatClampNeg 101) (3 : Int32).toNatClampNeg 116) (4 : Int32).toNatClampNeg 104) (5 : Int32).toNatClampNeg 32) (6 : Int32).toNatClampNeg 0) (7 : Int32).toNatClampNeg 108) (8 : Int32).toNatClampNeg 97) (9 : Int32).toNatClampNeg 99) (10 : Int32).toNatClampNeg 107) (11 : Int32).toNatClampNeg 32)))]) hP hD rfl
  clear hP hD
  obtain ⟨hP, hD⟩ := h9R
  refine lv_dup hx hb dX8_init_220 rfl ?_
  refine lv_bipush (v := 12) hx hb dX8_init_221 (by decide) ?_
  refine lv_iconst (v := 0) hx hb dX8_init_223 (by decide) ?_
  refine va_iast hx hb hK hP hD hS 14 0 rfl rfl (zf_in (by decide) (by decide)) dX8_init_224 (fun H locs hP hD hS => ?_)
  refine lv_dup hx hb dX8_init_225 rfl ?_
  refine lv_bipush (v := 13) hx hb dX8_init_226 (by decide) ?_
  refine lv_bipush (v := 115) hx hb dX8_init_228 (by decide) ?_
  refine va_iast hx hb hK hP hD hS 14 0 rfl rfl (zf_in (by decide) (by decide)) dX8_init_230 (fun H locs hP hD hS => ?_)
  refine lv_dup hx hb dX8_init_231 rfl ?_
  refine lv_bipush (v := 14) hx hb dX8_init_232 (by decide) ?_
  refine lv_bipush (v := 108) hx hb dX8_init_234 (by decide) ?_
  refine va_iast hx hb hK hP hD hS 14 0 rfl rfl (zf_in (by decide) (by decide)) dX8_init_236 (fun H locs hP hD hS => ?_)
  refine lv_dup hx hb dX8_init_237 rfl ?_
  refine lv_bipush (v := 15) hx hb dX8_init_238 (by decide) ?_
  refine lv_bipush (v := 97) hx hb dX8_init_240 (by decide) ?_
  refine va_iast hx hb hK hP hD hS 14 0 rfl rfl (zf_in (by decide) (by decide)) dX8_init_242 (fun H locs hP hD hS => ?_)
  refine lv_dup hx hb dX8_init_243 rfl ?_
  refine lv_bipush (v := 16) hx hb dX8_init_244 (by decide) ?_
  refine lv_bipush (v := 99) hx hb dX8_init_246 (by decide) ?_
  refine va_iast hx hb hK hP hD hS 14 0 rfl rfl (zf_in (by decide) (by decide)) dX8_init_248 (fun H locs hP hD hS => ?_)
  refine lv_dup hx hb dX8_init_249 rfl ?_
  refine lv_bipush (v := 17) hx hb dX8_init_250 (by decide) ?_
  refine lv_bipush (v := 107) hx hb dX8_init_252 (by decide) ?_
  refine va_iast hx hb hK hP hD hS 14 0 rfl rfl (zf_in (by decide) (by decide)) dX8_init_254 (fun H locs hP hD hS => ?_)
  have h9R := zRe (ws' := [(m0, .inr (8, (.int 0 :: .int 20 :: .int 0 :: .int 0 :: .int 0 :: .int 60 :: .int 0 :: .int 3 :: .int 1 :: .int (-1) :: .ref q_1 :: .ref q_2 :: .ref q_3 :: .ref q_4 :: .ref q_5 :: .ref q_6 :: .ref q_7 :: .ref q_8 :: .ref q_9 :: .ref q_10 :: .ref q_11 :: .ref q_12 :: .ref q_13 :: .null :: .null :: .null :: .int 0 :: .int 0 :: .int 0 :: .int 0 :: .int 0 :: .null :: .null :: .null :: .null :: .null :: .int 0 :: .int 0 :: []))), (q_1, .inl (cI, 8, .inl (fun _ => 0))), (q_2, .inl (cI, 8, .inl (fun _ => 0))), (q_3, .inl (cI, 8, .inl (fun _ => 0))), (q_4, .inl (cI, 8, .inl (fun _ => 0))), (q_5, .inl (cI, 40, .inl (fun _ => 0))), (q_6, .inl (cI, 40, .inl (fun _ => 0))), (q_7, .inl (cI, 3, .inl (zL3 5 10 50))), (q_8, .inl (cI, 8, .inl (fun _ => 0))), (q_9, .inl (cI, 8, .inl (fun _ => 0))), (q_10, .inl (cI, 8, .inl (fun _ => 0))), (q_11, .inl (cI, 8, .inl (fun _ => 0))), (q_12, .inl (cJ, 1280, .inr (.inl (fun _ => 0)))), (q_13, .inl (cJ, 160, .inr (.inl (fun _ => 0)))), (q_14, .inl (cI, 64, .inl (upd (upd (upd (upd (upd (upd (upd (upd (upd (upd (upd (upd (upd (upd (upd (upd (upd (upd (fun _ => 0) (0 : Int32).toNatClampNeg 116) (1 : Int32).toNatClampNeg 101) (2 : Int32).toNatClampNeg 101) (3 : Int32).toNatClampNeg 116) (4 : Int32).toNatClampNeg 104) (5 : Int32).toNatClampNeg 32) (6 : Int32).toNatClampNeg 0) (7 : Int32).toNatClampNeg 108) (8 : Int32).toNatClampNeg 97) (9 : Int32).toNatClampNeg 99) (10 : Int32).toNatClampNeg 107) (11 : Int32).toNatClampNeg 32) (12 : Int32).toNatClampNeg 0) (13 : Int32).toNatClampNeg 115) (14 : Int32).toNatClampNeg 108) (15 : Int32).toNatClampNeg 97) (16 : Int32).toNatClampNeg 99) (17 : Int32).toNatClampNeg 107)))]) hP hD rfl
  clear hP hD
  obtain ⟨hP, hD⟩ := h9R
  refine lv_dup hx hb dX8_init_255 rfl ?_
  refine lv_bipush (v := 18) hx hb dX8_init_256 (by decide) ?_
  refine lv_bipush (v := 32) hx hb dX8_init_258 (by decide) ?_
  refine va_iast hx hb hK hP hD hS 14 0 rfl rfl (zf_in (by decide) (by decide)) dX8_init_260 (fun H locs hP hD hS => ?_)
  refine lv_dup hx hb dX8_init_261 rfl ?_
  refine lv_bipush (v := 19) hx hb dX8_init_262 (by decide) ?_
  refine lv_iconst (v := 0) hx hb dX8_init_264 (by decide) ?_
  refine va_iast hx hb hK hP hD hS 14 0 rfl rfl (zf_in (by decide) (by decide)) dX8_init_265 (fun H locs hP hD hS => ?_)
  refine lv_dup hx hb dX8_init_266 rfl ?_
  refine lv_bipush (v := 20) hx hb dX8_init_267 (by decide) ?_
  refine lv_bipush (v := 112) hx hb dX8_init_269 (by decide) ?_
  refine va_iast hx hb hK hP hD hS 14 0 rfl rfl (zf_in (by decide) (by decide)) dX8_init_271 (fun H locs hP hD hS => ?_)
  refine lv_dup hx hb dX8_init_272 rfl ?_
  refine lv_bipush (v := 21) hx hb dX8_init_273 (by decide) ?_
  refine lv_bipush (v := 117) hx hb dX8_init_275 (by decide) ?_
  refine va_iast hx hb hK hP hD hS 14 0 rfl rfl (zf_in (by decide) (by decide)) dX8_init_277 (fun H locs hP hD hS => ?_)
  refine lv_dup hx hb dX8_init_278 rfl ?_
  refine lv_bipush (v := 22) hx hb dX8_init_279 (by decide) ?_
  refine lv_bipush (v := 108) hx hb dX8_init_281 (by decide) ?_
  refine va_iast hx hb hK hP hD hS 14 0 rfl rfl (zf_in (by decide) (by decide)) dX8_init_283 (fun H locs hP hD hS => ?_)
  refine lv_dup hx hb dX8_init_284 rfl ?_
  refine lv_bipush (v := 23) hx hb dX8_init_285 (by decide) ?_
  refine lv_bipush (v := 108) hx hb dX8_init_287 (by decide) ?_
  refine va_iast hx hb hK hP hD hS 14 0 rfl rfl (zf_in (by decide) (by decide)) dX8_init_289 (fun H locs hP hD hS => ?_)
  have h9R := zRe (ws' := [(m0, .inr (8, (.int 0 :: .int 20 :: .int 0 :: .int 0 :: .int 0 :: .int 60 :: .int 0 :: .int 3 :: .int 1 :: .int (-1) :: .ref q_1 :: .ref q_2 :: .ref q_3 :: .ref q_4 :: .ref q_5 :: .ref q_6 :: .ref q_7 :: .ref q_8 :: .ref q_9 :: .ref q_10 :: .ref q_11 :: .ref q_12 :: .ref q_13 :: .null :: .null :: .null :: .int 0 :: .int 0 :: .int 0 :: .int 0 :: .int 0 :: .null :: .null :: .null :: .null :: .null :: .int 0 :: .int 0 :: []))), (q_1, .inl (cI, 8, .inl (fun _ => 0))), (q_2, .inl (cI, 8, .inl (fun _ => 0))), (q_3, .inl (cI, 8, .inl (fun _ => 0))), (q_4, .inl (cI, 8, .inl (fun _ => 0))), (q_5, .inl (cI, 40, .inl (fun _ => 0))), (q_6, .inl (cI, 40, .inl (fun _ => 0))), (q_7, .inl (cI, 3, .inl (zL3 5 10 50))), (q_8, .inl (cI, 8, .inl (fun _ => 0))), (q_9, .inl (cI, 8, .inl (fun _ => 0))), (q_10, .inl (cI, 8, .inl (fun _ => 0))), (q_11, .inl (cI, 8, .inl (fun _ => 0))), (q_12, .inl (cJ, 1280, .inr (.inl (fun _ => 0)))), (q_13, .inl (cJ, 160, .inr (.inl (fun _ => 0)))), (q_14, .inl (cI, 64, .inl (upd (upd (upd (upd (upd (upd (upd (upd (upd (upd (upd (upd (upd (upd (upd (upd (upd (upd (upd (upd (upd (upd (upd (upd (fun _ => 0) (0 : Int32).toNatClampNeg 116) (1 : Int32).toNatClampNeg 101) (2 : Int32).toNatClampNeg 101) (3 : Int32).toNatClampNeg 116) (4 : Int32).toNatClampNeg 104) (5 : Int32).toNatClampNeg 32) (6 : Int32).toNatClampNeg 0) (7 : Int32).toNatClampNeg 108) (8 : Int32).toNatClampNeg 97) (9 : Int32).toNatClampNeg 99) (10 : Int32).toNatClampNeg 107) (11 : Int32).toNatClampNeg 32) (12 : Int32).toNatClampNeg 0) (13 : Int32).toNatClampNeg 115) (14 : Int32).toNatClampNeg 108) (15 : Int32).toNatClampNeg 97) (16 : Int32).toNatClampNeg 99) (17 : Int32).toNatClampNeg 107) (18 : Int32).toNatClampNeg 32) (19 : Int32).toNatClampNeg 0) (20 : Int32).toNatClampNeg 112) (21 : Int32).toNatClampNeg 117) (22 : Int32).toNatClampNeg 108) (23 : Int32).toNatClampNeg 108)))]) hP hD rfl
  clear hP hD
  obtain ⟨hP, hD⟩ := h9R
  refine lv_dup hx hb dX8_init_290 rfl ?_
  refine lv_bipush (v := 24) hx hb dX8_init_291 (by decide) ?_
  refine lv_bipush (v := 32) hx hb dX8_init_293 (by decide) ?_
  refine va_iast hx hb hK hP hD hS 14 0 rfl rfl (zf_in (by decide) (by decide)) dX8_init_295 (fun H locs hP hD hS => ?_)
  refine lv_dup hx hb dX8_init_296 rfl ?_
  refine lv_bipush (v := 25) hx hb dX8_init_297 (by decide) ?_
  refine lv_iconst (v := 0) hx hb dX8_init_299 (by decide) ?_
  refine va_iast hx hb hK hP hD hS 14 0 rfl rfl (zf_in (by decide) (by decide)) dX8_init_300 (fun H locs hP hD hS => ?_)
  refine lv_dup hx hb dX8_init_301 rfl ?_
  refine lv_bipush (v := 26) hx hb dX8_init_302 (by decide) ?_
  refine lv_bipush (v := 100) hx hb dX8_init_304 (by decide) ?_
  refine va_iast hx hb hK hP hD hS 14 0 rfl rfl (zf_in (by decide) (by decide)) dX8_init_306 (fun H locs hP hD hS => ?_)
  refine lv_dup hx hb dX8_init_307 rfl ?_
  refine lv_bipush (v := 27) hx hb dX8_init_308 (by decide) ?_
  refine lv_bipush (v := 101) hx hb dX8_init_310 (by decide) ?_
  refine va_iast hx hb hK hP hD hS 14 0 rfl rfl (zf_in (by decide) (by decide)) dX8_init_312 (fun H locs hP hD hS => ?_)
  refine lv_dup hx hb dX8_init_313 rfl ?_
  refine lv_bipush (v := 28) hx hb dX8_init_314 (by decide) ?_
  refine lv_bipush (v := 112) hx hb dX8_init_316 (by decide) ?_
  refine va_iast hx hb hK hP hD hS 14 0 rfl rfl (zf_in (by decide) (by decide)) dX8_init_318 (fun H locs hP hD hS => ?_)
  refine lv_dup hx hb dX8_init_319 rfl ?_
  refine lv_bipush (v := 29) hx hb dX8_init_320 (by decide) ?_
  refine lv_bipush (v := 116) hx hb dX8_init_322 (by decide) ?_
  refine va_iast hx hb hK hP hD hS 14 0 rfl rfl (zf_in (by decide) (by decide)) dX8_init_324 (fun H locs hP hD hS => ?_)
  have h9R := zRe (ws' := [(m0, .inr (8, (.int 0 :: .int 20 :: .int 0 :: .int 0 :: .int 0 :: .int 60 :: .int 0 :: .int 3 :: .int 1 :: .int (-1) :: .ref q_1 :: .ref q_2 :: .ref q_3 :: .ref q_4 :: .ref q_5 :: .ref q_6 :: .ref q_7 :: .ref q_8 :: .ref q_9 :: .ref q_10 :: .ref q_11 :: .ref q_12 :: .ref q_13 :: .null :: .null :: .null :: .int 0 :: .int 0 :: .int 0 :: .int 0 :: .int 0 :: .null :: .null :: .null :: .null :: .null :: .int 0 :: .int 0 :: []))), (q_1, .inl (cI, 8, .inl (fun _ => 0))), (q_2, .inl (cI, 8, .inl (fun _ => 0))), (q_3, .inl (cI, 8, .inl (fun _ => 0))), (q_4, .inl (cI, 8, .inl (fun _ => 0))), (q_5, .inl (cI, 40, .inl (fun _ => 0))), (q_6, .inl (cI, 40, .inl (fun _ => 0))), (q_7, .inl (cI, 3, .inl (zL3 5 10 50))), (q_8, .inl (cI, 8, .inl (fun _ => 0))), (q_9, .inl (cI, 8, .inl (fun _ => 0))), (q_10, .inl (cI, 8, .inl (fun _ => 0))), (q_11, .inl (cI, 8, .inl (fun _ => 0))), (q_12, .inl (cJ, 1280, .inr (.inl (fun _ => 0)))), (q_13, .inl (cJ, 160, .inr (.inl (fun _ => 0)))), (q_14, .inl (cI, 64, .inl (upd (upd (upd (upd (upd (upd (upd (upd (upd (upd (upd (upd (upd (upd (upd (upd (upd (upd (upd (upd (upd (upd (upd (upd (upd (upd (upd (upd (upd (upd (fun _ => 0) (0 : Int32).toNatClampNeg 116) (1 : Int32).toNatClampNeg 101) (2 : Int32).toNatClampNeg 101) (3 : Int32).toNatClampNeg 116) (4 : Int32).toNatClampNeg 104) (5 : Int32).toNatClampNeg 32) (6 : Int32).toNatClampNeg 0) (7 : Int32).toNatClampNeg 108) (8 : Int32).toNatClampNeg 97) (9 : Int32).toNatClampNeg 99) (10 : Int32).toNatClampNeg 107) (11 : Int32).toNatClampNeg 32) (12 : Int32).toNatClampNeg 0) (13 : Int32).toNatClampNeg 115) (14 : Int32).toNatClampNeg 108) (15 : Int32).toNatClampNeg 97) (16 : Int32).toNatClampNeg 99) (17 : Int32).toNatClampNeg 107) (18 : Int32).toNatClampNeg 32) (19 : Int32).toNatClampNeg 0) (20 : Int32).toNatClampNeg 112) (21 : Int32).toNatClampNeg 117) (22 : Int32).toNatClampNeg 108) (23 : Int32).toNatClampNeg 108) (24 : Int32).toNatClampNeg 32) (25 : Int32).toNatClampNeg 0) (26 : Int32).toNatClampNeg 100) (27 : Int32).toNatClampNeg 101) (28 : Int32).toNatClampNeg 112) (29 : Int32).toNatClampNeg 116)))]) hP hD rfl
  clear hP hD
  obtain ⟨hP, hD⟩ := h9R
  refine lv_dup hx hb dX8_init_325 rfl ?_
  refine lv_bipush (v := 30) hx hb dX8_init_326 (by decide) ?_
  refine lv_bipush (v := 104) hx hb dX8_init_328 (by decide) ?_
  refine va_iast hx hb hK hP hD hS 14 0 rfl rfl (zf_in (by decide) (by decide)) dX8_init_330 (fun H locs hP hD hS => ?_)
  refine lv_dup hx hb dX8_init_331 rfl ?_
  refine lv_bipush (v := 31) hx hb dX8_init_332 (by decide) ?_
  refine lv_bipush (v := 32) hx hb dX8_init_334 (by decide) ?_
  refine va_iast hx hb hK hP hD hS 14 0 rfl rfl (zf_in (by decide) (by decide)) dX8_init_336 (fun H locs hP hD hS => ?_)
  refine lv_dup hx hb dX8_init_337 rfl ?_
  refine lv_bipush (v := 32) hx hb dX8_init_338 (by decide) ?_
  refine lv_iconst (v := 0) hx hb dX8_init_340 (by decide) ?_
  refine va_iast hx hb hK hP hD hS 14 0 rfl rfl (zf_in (by decide) (by decide)) dX8_init_341 (fun H locs hP hD hS => ?_)
  refine lv_dup hx hb dX8_init_342 rfl ?_
  refine lv_bipush (v := 33) hx hb dX8_init_343 (by decide) ?_
  refine lv_bipush (v := 115) hx hb dX8_init_345 (by decide) ?_
  refine va_iast hx hb hK hP hD hS 14 0 rfl rfl (zf_in (by decide) (by decide)) dX8_init_347 (fun H locs hP hD hS => ?_)
  refine lv_dup hx hb dX8_init_348 rfl ?_
  refine lv_bipush (v := 34) hx hb dX8_init_349 (by decide) ?_
  refine lv_bipush (v := 101) hx hb dX8_init_351 (by decide) ?_
  refine va_iast hx hb hK hP hD hS 14 0 rfl rfl (zf_in (by decide) (by decide)) dX8_init_353 (fun H locs hP hD hS => ?_)
  refine lv_dup hx hb dX8_init_354 rfl ?_
  refine lv_bipush (v := 35) hx hb dX8_init_355 (by decide) ?_
  refine lv_bipush (v := 99) hx hb dX8_init_357 (by decide) ?_
  refine va_iast hx hb hK hP hD hS 14 0 rfl rfl (zf_in (by decide) (by decide)) dX8_init_359 (fun H locs hP hD hS => ?_)
  have h9R := zRe (ws' := [(m0, .inr (8, (.int 0 :: .int 20 :: .int 0 :: .int 0 :: .int 0 :: .int 60 :: .int 0 :: .int 3 :: .int 1 :: .int (-1) :: .ref q_1 :: .ref q_2 :: .ref q_3 :: .ref q_4 :: .ref q_5 :: .ref q_6 :: .ref q_7 :: .ref q_8 :: .ref q_9 :: .ref q_10 :: .ref q_11 :: .ref q_12 :: .ref q_13 :: .null :: .null :: .null :: .int 0 :: .int 0 :: .int 0 :: .int 0 :: .int 0 :: .null :: .null :: .null :: .null :: .null :: .int 0 :: .int 0 :: []))), (q_1, .inl (cI, 8, .inl (fun _ => 0))), (q_2, .inl (cI, 8, .inl (fun _ => 0))), (q_3, .inl (cI, 8, .inl (fun _ => 0))), (q_4, .inl (cI, 8, .inl (fun _ => 0))), (q_5, .inl (cI, 40, .inl (fun _ => 0))), (q_6, .inl (cI, 40, .inl (fun _ => 0))), (q_7, .inl (cI, 3, .inl (zL3 5 10 50))), (q_8, .inl (cI, 8, .inl (fun _ => 0))), (q_9, .inl (cI, 8, .inl (fun _ => 0))), (q_10, .inl (cI, 8, .inl (fun _ => 0))), (q_11, .inl (cI, 8, .inl (fun _ => 0))), (q_12, .inl (cJ, 1280, .inr (.inl (fun _ => 0)))), (q_13, .inl (cJ, 160, .inr (.inl (fun _ => 0)))), (q_14, .inl (cI, 64, .inl (upd (upd (upd (upd (upd (upd (upd (upd (upd (upd (upd (upd (upd (upd (upd (upd (upd (upd (upd (upd (upd (upd (upd (upd (upd (upd (upd (upd (upd (upd (upd (upd (upd (upd (upd (upd (fun _ => 0) (0 : Int32).toNatClampNeg 116) (1 : Int32).toNatClampNeg 101) (2 : Int32).toNatClampNeg 101) (3 : Int32).toNatClampNeg 116) (4 : Int32).toNatClampNeg 104) (5 : Int32).toNatClampNeg 32) (6 : Int32).toNatClampNeg 0) (7 : Int32).toNatClampNeg 108) (8 : Int32).toNatClampNeg 97) (9 : Int32).toNatClampNeg 99) (10 : Int32).toNatClampNeg 107) (11 : Int32).toNatClampNeg 32) (12 : Int32).toNatClampNeg 0) (13 : Int32).toNatClampNeg 115) (14 : Int32).toNatClampNeg 108) (15 : Int32).toNatClampNeg 97) (16 : Int32).toNatClampNeg 99) (17 : Int32).toNatClampNeg 107) (18 : Int32).toNatClampNeg 32) (19 : Int32).toNatClampNeg 0) (20 : Int32).toNatClampNeg 112) (21 : Int32).toNatClampNeg 117) (22 : Int32).toNatClampNeg 108) (23 : Int32).toNatClampNeg 108) (24 : Int32).toNatClampNeg 32) (25 : Int32).toNatClampNeg 0) (26 : Int32).toNatClampNeg 100) (27 : Int32).toNatClampNeg 101) (28 : Int32).toNatClampNeg 112) (29 : Int32).toNatClampNeg 116) (30 : Int32).toNatClampNeg 104) (31 : Int32).toNatClampNeg 32) (32 : Int32).toNatClampNeg 0) (33 : Int32).toNatClampNeg 115) (34 : Int32).toNatClampNeg 101) (35 : Int32).toNatClampNeg 99)))]) hP hD rfl
  clear hP hD
  obtain ⟨hP, hD⟩ := h9R
  refine lv_dup hx hb dX8_init_360 rfl ?_
  refine lv_bipush (v := 36) hx hb dX8_init_361 (by decide) ?_
  refine lv_bipush (v := 111) hx hb dX8_init_363 (by decide) ?_
  refine va_iast hx hb hK hP hD hS 14 0 rfl rfl (zf_in (by decide) (by decide)) dX8_init_365 (fun H locs hP hD hS => ?_)
  refine lv_dup hx hb dX8_init_366 rfl ?_
  refine lv_bipush (v := 37) hx hb dX8_init_367 (by decide) ?_
  refine lv_bipush (v := 110) hx hb dX8_init_369 (by decide) ?_
  refine va_iast hx hb hK hP hD hS 14 0 rfl rfl (zf_in (by decide) (by decide)) dX8_init_371 (fun H locs hP hD hS => ?_)
  refine lv_dup hx hb dX8_init_372 rfl ?_
  refine lv_bipush (v := 38) hx hb dX8_init_373 (by decide) ?_
  refine lv_bipush (v := 100) hx hb dX8_init_375 (by decide) ?_
  refine va_iast hx hb hK hP hD hS 14 0 rfl rfl (zf_in (by decide) (by decide)) dX8_init_377 (fun H locs hP hD hS => ?_)
  refine lv_dup hx hb dX8_init_378 rfl ?_
  refine lv_bipush (v := 39) hx hb dX8_init_379 (by decide) ?_
  refine lv_bipush (v := 115) hx hb dX8_init_381 (by decide) ?_
  refine va_iast hx hb hK hP hD hS 14 0 rfl rfl (zf_in (by decide) (by decide)) dX8_init_383 (fun H locs hP hD hS => ?_)
  refine lv_dup hx hb dX8_init_384 rfl ?_
  refine lv_bipush (v := 40) hx hb dX8_init_385 (by decide) ?_
  refine lv_bipush (v := 32) hx hb dX8_init_387 (by decide) ?_
  refine va_iast hx hb hK hP hD hS 14 0 rfl rfl (zf_in (by decide) (by decide)) dX8_init_389 (fun H locs hP hD hS => ?_)
  refine lv_dup hx hb dX8_init_390 rfl ?_
  refine lv_bipush (v := 41) hx hb dX8_init_391 (by decide) ?_
  refine lv_iconst (v := 0) hx hb dX8_init_393 (by decide) ?_
  refine va_iast hx hb hK hP hD hS 14 0 rfl rfl (zf_in (by decide) (by decide)) dX8_init_394 (fun H locs hP hD hS => ?_)
  have h9R := zRe (ws' := [(m0, .inr (8, (.int 0 :: .int 20 :: .int 0 :: .int 0 :: .int 0 :: .int 60 :: .int 0 :: .int 3 :: .int 1 :: .int (-1) :: .ref q_1 :: .ref q_2 :: .ref q_3 :: .ref q_4 :: .ref q_5 :: .ref q_6 :: .ref q_7 :: .ref q_8 :: .ref q_9 :: .ref q_10 :: .ref q_11 :: .ref q_12 :: .ref q_13 :: .null :: .null :: .null :: .int 0 :: .int 0 :: .int 0 :: .int 0 :: .int 0 :: .null :: .null :: .null :: .null :: .null :: .int 0 :: .int 0 :: []))), (q_1, .inl (cI, 8, .inl (fun _ => 0))), (q_2, .inl (cI, 8, .inl (fun _ => 0))), (q_3, .inl (cI, 8, .inl (fun _ => 0))), (q_4, .inl (cI, 8, .inl (fun _ => 0))), (q_5, .inl (cI, 40, .inl (fun _ => 0))), (q_6, .inl (cI, 40, .inl (fun _ => 0))), (q_7, .inl (cI, 3, .inl (zL3 5 10 50))), (q_8, .inl (cI, 8, .inl (fun _ => 0))), (q_9, .inl (cI, 8, .inl (fun _ => 0))), (q_10, .inl (cI, 8, .inl (fun _ => 0))), (q_11, .inl (cI, 8, .inl (fun _ => 0))), (q_12, .inl (cJ, 1280, .inr (.inl (fun _ => 0)))), (q_13, .inl (cJ, 160, .inr (.inl (fun _ => 0)))), (q_14, .inl (cI, 64, .inl (upd (upd (upd (upd (upd (upd (upd (upd (upd (upd (upd (upd (upd (upd (upd (upd (upd (upd (upd (upd (upd (upd (upd (upd (upd (upd (upd (upd (upd (upd (upd (upd (upd (upd (upd (upd (upd (upd (upd (upd (upd (upd (fun _ => 0) (0 : Int32).toNatClampNeg 116) (1 : Int32).toNatClampNeg 101) (2 : Int32).toNatClampNeg 101) (3 : Int32).toNatClampNeg 116) (4 : Int32).toNatClampNeg 104) (5 : Int32).toNatClampNeg 32) (6 : Int32).toNatClampNeg 0) (7 : Int32).toNatClampNeg 108) (8 : Int32).toNatClampNeg 97) (9 : Int32).toNatClampNeg 99) (10 : Int32).toNatClampNeg 107) (11 : Int32).toNatClampNeg 32) (12 : Int32).toNatClampNeg 0) (13 : Int32).toNatClampNeg 115) (14 : Int32).toNatClampNeg 108) (15 : Int32).toNatClampNeg 97) (16 : Int32).toNatClampNeg 99) (17 : Int32).toNatClampNeg 107) (18 : Int32).toNatClampNeg 32) (19 : Int32).toNatClampNeg 0) (20 : Int32).toNatClampNeg 112) (21 : Int32).toNatClampNeg 117) (22 : Int32).toNatClampNeg 108) (23 : Int32).toNatClampNeg 108) (24 : Int32).toNatClampNeg 32) (25 : Int32).toNatClampNeg 0) (26 : Int32).toNatClampNeg 100) (27 : Int32).toNatClampNeg 101) (28 : Int32).toNatClampNeg 112) (29 : Int32).toNatClampNeg 116) (30 : Int32).toNatClampNeg 104) (31 : Int32).toNatClampNeg 32) (32 : Int32).toNatClampNeg 0) (33 : Int32).toNatClampNeg 115) (34 : Int32).toNatClampNeg 101) (35 : Int32).toNatClampNeg 99) (36 : Int32).toNatClampNeg 111) (37 : Int32).toNatClampNeg 110) (38 : Int32).toNatClampNeg 100) (39 : Int32).toNatClampNeg 115) (40 : Int32).toNatClampNeg 32) (41 : Int32).toNatClampNeg 0)))]) hP hD rfl
  clear hP hD
  obtain ⟨hP, hD⟩ := h9R
  refine lv_dup hx hb dX8_init_395 rfl ?_
  refine lv_bipush (v := 42) hx hb dX8_init_396 (by decide) ?_
  refine lv_bipush (v := 104) hx hb dX8_init_398 (by decide) ?_
  refine va_iast hx hb hK hP hD hS 14 0 rfl rfl (zf_in (by decide) (by decide)) dX8_init_400 (fun H locs hP hD hS => ?_)
  refine lv_dup hx hb dX8_init_401 rfl ?_
  refine lv_bipush (v := 43) hx hb dX8_init_402 (by decide) ?_
  refine lv_bipush (v := 117) hx hb dX8_init_404 (by decide) ?_
  refine va_iast hx hb hK hP hD hS 14 0 rfl rfl (zf_in (by decide) (by decide)) dX8_init_406 (fun H locs hP hD hS => ?_)
  refine lv_dup hx hb dX8_init_407 rfl ?_
  refine lv_bipush (v := 44) hx hb dX8_init_408 (by decide) ?_
  refine lv_bipush (v := 114) hx hb dX8_init_410 (by decide) ?_
  refine va_iast hx hb hK hP hD hS 14 0 rfl rfl (zf_in (by decide) (by decide)) dX8_init_412 (fun H locs hP hD hS => ?_)
  refine lv_dup hx hb dX8_init_413 rfl ?_
  refine lv_bipush (v := 45) hx hb dX8_init_414 (by decide) ?_
  refine lv_bipush (v := 114) hx hb dX8_init_416 (by decide) ?_
  refine va_iast hx hb hK hP hD hS 14 0 rfl rfl (zf_in (by decide) (by decide)) dX8_init_418 (fun H locs hP hD hS => ?_)
  refine lv_dup hx hb dX8_init_419 rfl ?_
  refine lv_bipush (v := 46) hx hb dX8_init_420 (by decide) ?_
  refine lv_bipush (v := 121) hx hb dX8_init_422 (by decide) ?_
  refine va_iast hx hb hK hP hD hS 14 0 rfl rfl (zf_in (by decide) (by decide)) dX8_init_424 (fun H locs hP hD hS => ?_)
  refine lv_dup hx hb dX8_init_425 rfl ?_
  refine lv_bipush (v := 47) hx hb dX8_init_426 (by decide) ?_
  refine lv_bipush (v := 32) hx hb dX8_init_428 (by decide) ?_
  refine va_iast hx hb hK hP hD hS 14 0 rfl rfl (zf_in (by decide) (by decide)) dX8_init_430 (fun H locs hP hD hS => ?_)
  have h9R := zRe (ws' := [(m0, .inr (8, (.int 0 :: .int 20 :: .int 0 :: .int 0 :: .int 0 :: .int 60 :: .int 0 :: .int 3 :: .int 1 :: .int (-1) :: .ref q_1 :: .ref q_2 :: .ref q_3 :: .ref q_4 :: .ref q_5 :: .ref q_6 :: .ref q_7 :: .ref q_8 :: .ref q_9 :: .ref q_10 :: .ref q_11 :: .ref q_12 :: .ref q_13 :: .null :: .null :: .null :: .int 0 :: .int 0 :: .int 0 :: .int 0 :: .int 0 :: .null :: .null :: .null :: .null :: .null :: .int 0 :: .int 0 :: []))), (q_1, .inl (cI, 8, .inl (fun _ => 0))), (q_2, .inl (cI, 8, .inl (fun _ => 0))), (q_3, .inl (cI, 8, .inl (fun _ => 0))), (q_4, .inl (cI, 8, .inl (fun _ => 0))), (q_5, .inl (cI, 40, .inl (fun _ => 0))), (q_6, .inl (cI, 40, .inl (fun _ => 0))), (q_7, .inl (cI, 3, .inl (zL3 5 10 50))), (q_8, .inl (cI, 8, .inl (fun _ => 0))), (q_9, .inl (cI, 8, .inl (fun _ => 0))), (q_10, .inl (cI, 8, .inl (fun _ => 0))), (q_11, .inl (cI, 8, .inl (fun _ => 0))), (q_12, .inl (cJ, 1280, .inr (.inl (fun _ => 0)))), (q_13, .inl (cJ, 160, .inr (.inl (fun _ => 0)))), (q_14, .inl (cI, 64, .inl (upd (upd (upd (upd (upd (upd (upd (upd (upd (upd (upd (upd (upd (upd (upd (upd (upd (upd (upd (upd (upd (upd (upd (upd (upd (upd (upd (upd (upd (upd (upd (upd (upd (upd (upd (upd (upd (upd (upd (upd (upd (upd (upd (upd (upd (upd (upd (upd (fun _ => 0) (0 : Int32).toNatClampNeg 116) (1 : Int32).toNatClampNeg 101) (2 : Int32).toNatClampNeg 101) (3 : Int32).toNatClampNeg 116) (4 : Int32).toNatClampNeg 104) (5 : Int32).toNatClampNeg 32) (6 : Int32).toNatClampNeg 0) (7 : Int32).toNatClampNeg 108) (8 : Int32).toNatClampNeg 97) (9 : Int32).toNatClampNeg 99) (10 : Int32).toNatClampNeg 107) (11 : Int32).toNatClampNeg 32) (12 : Int32).toNatClampNeg 0) (13 : Int32).toNatClampNeg 115) (14 : Int32).toNatClampNeg 108) (15 : Int32).toNatClampNeg 97) (16 : Int32).toNatClampNeg 99) (17 : Int32).toNatClampNeg 107) (18 : Int32).toNatClampNeg 32) (19 : Int32).toNatClampNeg 0) (20 : Int32).toNatClampNeg 112) (21 : Int32).toNatClampNeg 117) (22 : Int32).toNatClampNeg 108) (23 : Int32).toNatClampNeg 108) (24 : Int32).toNatClampNeg 32) (25 : Int32).toNatClampNeg 0) (26 : Int32).toNatClampNeg 100) (27 : Int32).toNatClampNeg 101) (28 : Int32).toNatClampNeg 112) (29 : Int32).toNatClampNeg 116) (30 : Int32).toNatClampNeg 104) (31 : Int32).toNatClampNeg 32) (32 : Int32).toNatClampNeg 0) (33 : Int32).toNatClampNeg 115) (34 : Int32).toNatClampNeg 101) (35 : Int32).toNatClampNeg 99) (36 : Int32).toNatClampNeg 111) (37 : Int32).toNatClampNeg 110) (38 : Int32).toNatClampNeg 100) (39 : Int32).toNatClampNeg 115) (40 : Int32).toNatClampNeg 32) (41 : Int32).toNatClampNeg 0) (42 : Int32).toNatClampNeg 104) (43 : Int32).toNatClampNeg 117) (44 : Int32).toNatClampNeg 114) (45 : Int32).toNatClampNeg 114) (46 : Int32).toNatClampNeg 121) (47 : Int32).toNatClampNeg 32)))]) hP hD rfl
  clear hP hD
  obtain ⟨hP, hD⟩ := h9R
  refine lv_dup hx hb dX8_init_431 rfl ?_
  refine lv_bipush (v := 48) hx hb dX8_init_432 (by decide) ?_
  refine lv_iconst (v := 0) hx hb dX8_init_434 (by decide) ?_
  refine va_iast hx hb hK hP hD hS 14 0 rfl rfl (zf_in (by decide) (by decide)) dX8_init_435 (fun H locs hP hD hS => ?_)
  refine lv_dup hx hb dX8_init_436 rfl ?_
  refine lv_bipush (v := 49) hx hb dX8_init_437 (by decide) ?_
  refine lv_bipush (v := 103) hx hb dX8_init_439 (by decide) ?_
  refine va_iast hx hb hK hP hD hS 14 0 rfl rfl (zf_in (by decide) (by decide)) dX8_init_441 (fun H locs hP hD hS => ?_)
  refine lv_dup hx hb dX8_init_442 rfl ?_
  refine lv_bipush (v := 50) hx hb dX8_init_443 (by decide) ?_
  refine lv_bipush (v := 97) hx hb dX8_init_445 (by decide) ?_
  refine va_iast hx hb hK hP hD hS 14 0 rfl rfl (zf_in (by decide) (by decide)) dX8_init_447 (fun H locs hP hD hS => ?_)
  refine lv_dup hx hb dX8_init_448 rfl ?_
  refine lv_bipush (v := 51) hx hb dX8_init_449 (by decide) ?_
  refine lv_bipush (v := 112) hx hb dX8_init_451 (by decide) ?_
  refine va_iast hx hb hK hP hD hS 14 0 rfl rfl (zf_in (by decide) (by decide)) dX8_init_453 (fun H locs hP hD hS => ?_)
  refine lv_dup hx hb dX8_init_454 rfl ?_
  refine lv_bipush (v := 52) hx hb dX8_init_455 (by decide) ?_
  refine lv_bipush (v := 32) hx hb dX8_init_457 (by decide) ?_
  refine va_iast hx hb hK hP hD hS 14 0 rfl rfl (zf_in (by decide) (by decide)) dX8_init_459 (fun H locs hP hD hS => ?_)
  refine lv_dup hx hb dX8_init_460 rfl ?_
  refine lv_bipush (v := 53) hx hb dX8_init_461 (by decide) ?_
  refine lv_iconst (v := 0) hx hb dX8_init_463 (by decide) ?_
  refine va_iast hx hb hK hP hD hS 14 0 rfl rfl (zf_in (by decide) (by decide)) dX8_init_464 (fun H locs hP hD hS => ?_)
  have h9R := zRe (ws' := [(m0, .inr (8, (.int 0 :: .int 20 :: .int 0 :: .int 0 :: .int 0 :: .int 60 :: .int 0 :: .int 3 :: .int 1 :: .int (-1) :: .ref q_1 :: .ref q_2 :: .ref q_3 :: .ref q_4 :: .ref q_5 :: .ref q_6 :: .ref q_7 :: .ref q_8 :: .ref q_9 :: .ref q_10 :: .ref q_11 :: .ref q_12 :: .ref q_13 :: .null :: .null :: .null :: .int 0 :: .int 0 :: .int 0 :: .int 0 :: .int 0 :: .null :: .null :: .null :: .null :: .null :: .int 0 :: .int 0 :: []))), (q_1, .inl (cI, 8, .inl (fun _ => 0))), (q_2, .inl (cI, 8, .inl (fun _ => 0))), (q_3, .inl (cI, 8, .inl (fun _ => 0))), (q_4, .inl (cI, 8, .inl (fun _ => 0))), (q_5, .inl (cI, 40, .inl (fun _ => 0))), (q_6, .inl (cI, 40, .inl (fun _ => 0))), (q_7, .inl (cI, 3, .inl (zL3 5 10 50))), (q_8, .inl (cI, 8, .inl (fun _ => 0))), (q_9, .inl (cI, 8, .inl (fun _ => 0))), (q_10, .inl (cI, 8, .inl (fun _ => 0))), (q_11, .inl (cI, 8, .inl (fun _ => 0))), (q_12, .inl (cJ, 1280, .inr (.inl (fun _ => 0)))), (q_13, .inl (cJ, 160, .inr (.inl (fun _ => 0)))), (q_14, .inl (cI, 64, .inl (upd (upd (upd (upd (upd (upd (upd (upd (upd (upd (upd (upd (upd (upd (upd (upd (upd (upd (upd (upd (upd (upd (upd (upd (upd (upd (upd (upd (upd (upd (upd (upd (upd (upd (upd (upd (upd (upd (upd (upd (upd (upd (upd (upd (upd (upd (upd (upd (upd (upd (upd (upd (upd (upd (fun _ => 0) (0 : Int32).toNatClampNeg 116) (1 : Int32).toNatClampNeg 101) (2 : Int32).toNatClampNeg 101) (3 : Int32).toNatClampNeg 116) (4 : Int32).toNatClampNeg 104) (5 : Int32).toNatClampNeg 32) (6 : Int32).toNatClampNeg 0) (7 : Int32).toNatClampNeg 108) (8 : Int32).toNatClampNeg 97) (9 : Int32).toNatClampNeg 99) (10 : Int32).toNatClampNeg 107) (11 : Int32).toNatClampNeg 32) (12 : Int32).toNatClampNeg 0) (13 : Int32).toNatClampNeg 115) (14 : Int32).toNatClampNeg 108) (15 : Int32).toNatClampNeg 97) (16 : Int32).toNatClampNeg 99) (17 : Int32).toNatClampNeg 107) (18 : Int32).toNatClampNeg 32) (19 : Int32).toNatClampNeg 0) (20 : Int32).toNatClampNeg 112) (21 : Int32).toNatClampNeg 117) (22 : Int32).toNatClampNeg 108) (23 : Int32).toNatClampNeg 108) (24 : Int32).toNatClampNeg 32) (25 : Int32).toNatClampNeg 0) (26 : Int32).toNatClampNeg 100) (27 : Int32).toNatClampNeg 101) (28 : Int32).toNatClampNeg 112) (29 : Int32).toNatClampNeg 116) (30 : Int32).toNatClampNeg 104) (31 : Int32).toNatClampNeg 32) (32 : Int32).toNatClampNeg 0) (33 : Int32).toNatClampNeg 115) (34 : Int32).toNatClampNeg 101) (35 : Int32).toNatClampNeg 99) (36 : Int32).toNatClampNeg 111) (37 : Int32).toNatClampNeg 110) (38 : Int32).toNatClampNeg 100) (39 : Int32).toNatClampNeg 115) (40 : Int32).toNatClampNeg 32) (41 : Int32).toNatClampNeg 0) (42 : Int32).toNatClampNeg 104) (43 : Int32).toNatClampNeg 117) (44 : Int32).toNatClampNeg 114) (45 : Int32).toNatClampNeg 114) (46 : Int32).toNatClampNeg 121) (47 : Int32).toNatClampNeg 32) (48 : Int32).toNatClampNeg 0) (49 : Int32).toNatClampNeg 103) (50 : Int32).toNatClampNeg 97) (51 : Int32).toNatClampNeg 112) (52 : Int32).toNatClampNeg 32) (53 : Int32).toNatClampNeg 0)))]) hP hD rfl
  clear hP hD
  obtain ⟨hP, hD⟩ := h9R
  refine lv_dup hx hb dX8_init_465 rfl ?_
  refine lv_bipush (v := 54) hx hb dX8_init_466 (by decide) ?_
  refine lv_bipush (v := 99) hx hb dX8_init_468 (by decide) ?_
  refine va_iast hx hb hK hP hD hS 14 0 rfl rfl (zf_in (by decide) (by decide)) dX8_init_470 (fun H locs hP hD hS => ?_)
  refine lv_dup hx hb dX8_init_471 rfl ?_
  refine lv_bipush (v := 55) hx hb dX8_init_472 (by decide) ?_
  refine lv_bipush (v := 111) hx hb dX8_init_474 (by decide) ?_
  refine va_iast hx hb hK hP hD hS 14 0 rfl rfl (zf_in (by decide) (by decide)) dX8_init_476 (fun H locs hP hD hS => ?_)
  refine lv_dup hx hb dX8_init_477 rfl ?_
  refine lv_bipush (v := 56) hx hb dX8_init_478 (by decide) ?_
  refine lv_bipush (v := 115) hx hb dX8_init_480 (by decide) ?_
  refine va_iast hx hb hK hP hD hS 14 0 rfl rfl (zf_in (by decide) (by decide)) dX8_init_482 (fun H locs hP hD hS => ?_)
  refine lv_dup hx hb dX8_init_483 rfl ?_
  refine lv_bipush (v := 57) hx hb dX8_init_484 (by decide) ?_
  refine lv_bipush (v := 116) hx hb dX8_init_486 (by decide) ?_
  refine va_iast hx hb hK hP hD hS 14 0 rfl rfl (zf_in (by decide) (by decide)) dX8_init_488 (fun H locs hP hD hS => ?_)
  refine lv_dup hx hb dX8_init_489 rfl ?_
  refine lv_bipush (v := 58) hx hb dX8_init_490 (by decide) ?_
  refine lv_bipush (v := 32) hx hb dX8_init_492 (by decide) ?_
  refine va_iast hx hb hK hP hD hS 14 0 rfl rfl (zf_in (by decide) (by decide)) dX8_init_494 (fun H locs hP hD hS => ?_)
  refine lv_dup hx hb dX8_init_495 rfl ?_
  refine lv_bipush (v := 59) hx hb dX8_init_496 (by decide) ?_
  refine lv_iconst (v := 0) hx hb dX8_init_498 (by decide) ?_
  refine va_iast hx hb hK hP hD hS 14 0 rfl rfl (zf_in (by decide) (by decide)) dX8_init_499 (fun H locs hP hD hS => ?_)
  have h9R := zRe (ws' := [(m0, .inr (8, (.int 0 :: .int 20 :: .int 0 :: .int 0 :: .int 0 :: .int 60 :: .int 0 :: .int 3 :: .int 1 :: .int (-1) :: .ref q_1 :: .ref q_2 :: .ref q_3 :: .ref q_4 :: .ref q_5 :: .ref q_6 :: .ref q_7 :: .ref q_8 :: .ref q_9 :: .ref q_10 :: .ref q_11 :: .ref q_12 :: .ref q_13 :: .null :: .null :: .null :: .int 0 :: .int 0 :: .int 0 :: .int 0 :: .int 0 :: .null :: .null :: .null :: .null :: .null :: .int 0 :: .int 0 :: []))), (q_1, .inl (cI, 8, .inl (fun _ => 0))), (q_2, .inl (cI, 8, .inl (fun _ => 0))), (q_3, .inl (cI, 8, .inl (fun _ => 0))), (q_4, .inl (cI, 8, .inl (fun _ => 0))), (q_5, .inl (cI, 40, .inl (fun _ => 0))), (q_6, .inl (cI, 40, .inl (fun _ => 0))), (q_7, .inl (cI, 3, .inl (zL3 5 10 50))), (q_8, .inl (cI, 8, .inl (fun _ => 0))), (q_9, .inl (cI, 8, .inl (fun _ => 0))), (q_10, .inl (cI, 8, .inl (fun _ => 0))), (q_11, .inl (cI, 8, .inl (fun _ => 0))), (q_12, .inl (cJ, 1280, .inr (.inl (fun _ => 0)))), (q_13, .inl (cJ, 160, .inr (.inl (fun _ => 0)))), (q_14, .inl (cI, 64, .inl (upd (upd (upd (upd (upd (upd (upd (upd (upd (upd (upd (upd (upd (upd (upd (upd (upd (upd (upd (upd (upd (upd (upd (upd (upd (upd (upd (upd (upd (upd (upd (upd (upd (upd (upd (upd (upd (upd (upd (upd (upd (upd (upd (upd (upd (upd (upd (upd (upd (upd (upd (upd (upd (upd (upd (upd (upd (upd (upd (upd (fun _ => 0) (0 : Int32).toNatClampNeg 116) (1 : Int32).toNatClampNeg 101) (2 : Int32).toNatClampNeg 101) (3 : Int32).toNatClampNeg 116) (4 : Int32).toNatClampNeg 104) (5 : Int32).toNatClampNeg 32) (6 : Int32).toNatClampNeg 0) (7 : Int32).toNatClampNeg 108) (8 : Int32).toNatClampNeg 97) (9 : Int32).toNatClampNeg 99) (10 : Int32).toNatClampNeg 107) (11 : Int32).toNatClampNeg 32) (12 : Int32).toNatClampNeg 0) (13 : Int32).toNatClampNeg 115) (14 : Int32).toNatClampNeg 108) (15 : Int32).toNatClampNeg 97) (16 : Int32).toNatClampNeg 99) (17 : Int32).toNatClampNeg 107) (18 : Int32).toNatClampNeg 32) (19 : Int32).toNatClampNeg 0) (20 : Int32).toNatClampNeg 112) (21 : Int32).toNatClampNeg 117) (22 : Int32).toNatClampNeg 108) (23 : Int32).toNatClampNeg 108) (24 : Int32).toNatClampNeg 32) (25 : Int32).toNatClampNeg 0) (26 : Int32).toNatClampNeg 100) (27 : Int32).toNatClampNeg 101) (28 : Int32).toNatClampNeg 112) (29 : Int32).toNatClampNeg 116) (30 : Int32).toNatClampNeg 104) (31 : Int32).toNatClampNeg 32) (32 : Int32).toNatClampNeg 0) (33 : Int32).toNatClampNeg 115) (34 : Int32).toNatClampNeg 101) (35 : Int32).toNatClampNeg 99) (36 : Int32).toNatClampNeg 111) (37 : Int32).toNatClampNeg 110) (38 : Int32).toNatClampNeg 100) (39 : Int32).toNatClampNeg 115) (40 : Int32).toNatClampNeg 32) (41 : Int32).toNatClampNeg 0) (42 : Int32).toNatClampNeg 104) (43 : Int32).toNatClampNeg 117) (44 : Int32).toNatClampNeg 114) (45 : Int32).toNatClampNeg 114) (46 : Int32).toNatClampNeg 121) (47 : Int32).toNatClampNeg 32) (48 : Int32).toNatClampNeg 0) (49 : Int32).toNatClampNeg 103) (50 : Int32).toNatClampNeg 97) (51 : Int32).toNatClampNeg 112) (52 : Int32).toNatClampNeg 32) (53 : Int32).toNatClampNeg 0) (54 : Int32).toNatClampNeg 99) (55 : Int32).toNatClampNeg 111) (56 : Int32).toNatClampNeg 115) (57 : Int32).toNatClampNeg 116) (58 : Int32).toNatClampNeg 32) (59 : Int32).toNatClampNeg 0)))]) hP hD rfl
  clear hP hD
  obtain ⟨hP, hD⟩ := h9R
  refine lv_dup hx hb dX8_init_500 rfl ?_
  refine lv_bipush (v := 60) hx hb dX8_init_501 (by decide) ?_
  refine lv_bipush (v := 97) hx hb dX8_init_503 (by decide) ?_
  refine va_iast hx hb hK hP hD hS 14 0 rfl rfl (zf_in (by decide) (by decide)) dX8_init_505 (fun H locs hP hD hS => ?_)
  refine lv_dup hx hb dX8_init_506 rfl ?_
  refine lv_bipush (v := 61) hx hb dX8_init_507 (by decide) ?_
  refine lv_bipush (v := 116) hx hb dX8_init_509 (by decide) ?_
  refine va_iast hx hb hK hP hD hS 14 0 rfl rfl (zf_in (by decide) (by decide)) dX8_init_511 (fun H locs hP hD hS => ?_)
  refine lv_dup hx hb dX8_init_512 rfl ?_
  refine lv_bipush (v := 62) hx hb dX8_init_513 (by decide) ?_
  refine lv_bipush (v := 32) hx hb dX8_init_515 (by decide) ?_
  refine va_iast hx hb hK hP hD hS 14 0 rfl rfl (zf_in (by decide) (by decide)) dX8_init_517 (fun H locs hP hD hS => ?_)
  refine lv_dup hx hb dX8_init_518 rfl ?_
  refine lv_bipush (v := 63) hx hb dX8_init_519 (by decide) ?_
  refine lv_iconst (v := 0) hx hb dX8_init_521 (by decide) ?_
  refine va_iast hx hb hK hP hD hS 14 0 rfl rfl (zf_in (by decide) (by decide)) dX8_init_522 (fun H locs hP hD hS => ?_)
  have h9R := zRe (ws' := [(m0, .inr (8, (.int 0 :: .int 20 :: .int 0 :: .int 0 :: .int 0 :: .int 60 :: .int 0 :: .int 3 :: .int 1 :: .int (-1) :: .ref q_1 :: .ref q_2 :: .ref q_3 :: .ref q_4 :: .ref q_5 :: .ref q_6 :: .ref q_7 :: .ref q_8 :: .ref q_9 :: .ref q_10 :: .ref q_11 :: .ref q_12 :: .ref q_13 :: .null :: .null :: .null :: .int 0 :: .int 0 :: .int 0 :: .int 0 :: .int 0 :: .null :: .null :: .null :: .null :: .null :: .int 0 :: .int 0 :: []))), (q_1, .inl (cI, 8, .inl (fun _ => 0))), (q_2, .inl (cI, 8, .inl (fun _ => 0))), (q_3, .inl (cI, 8, .inl (fun _ => 0))), (q_4, .inl (cI, 8, .inl (fun _ => 0))), (q_5, .inl (cI, 40, .inl (fun _ => 0))), (q_6, .inl (cI, 40, .inl (fun _ => 0))), (q_7, .inl (cI, 3, .inl (zL3 5 10 50))), (q_8, .inl (cI, 8, .inl (fun _ => 0))), (q_9, .inl (cI, 8, .inl (fun _ => 0))), (q_10, .inl (cI, 8, .inl (fun _ => 0))), (q_11, .inl (cI, 8, .inl (fun _ => 0))), (q_12, .inl (cJ, 1280, .inr (.inl (fun _ => 0)))), (q_13, .inl (cJ, 160, .inr (.inl (fun _ => 0)))), (q_14, .inl (cI, 64, .inl (upd (upd (upd (upd (upd (upd (upd (upd (upd (upd (upd (upd (upd (upd (upd (upd (upd (upd (upd (upd (upd (upd (upd (upd (upd (upd (upd (upd (upd (upd (upd (upd (upd (upd (upd (upd (upd (upd (upd (upd (upd (upd (upd (upd (upd (upd (upd (upd (upd (upd (upd (upd (upd (upd (upd (upd (upd (upd (upd (upd (upd (upd (upd (upd (fun _ => 0) (0 : Int32).toNatClampNeg 116) (1 : Int32).toNatClampNeg 101) (2 : Int32).toNatClampNeg 101) (3 : Int32).toNatClampNeg 116) (4 : Int32).toNatClampNeg 104) (5 : Int32).toNatClampNeg 32) (6 : Int32).toNatClampNeg 0) (7 : Int32).toNatClampNeg 108) (8 : Int32).toNatClampNeg 97) (9 : Int32).toNatClampNeg 99) (10 : Int32).toNatClampNeg 107) (11 : Int32).toNatClampNeg 32) (12 : Int32).toNatClampNeg 0) (13 : Int32).toNatClampNeg 115) (14 : Int32).toNatClampNeg 108) (15 : Int32).toNatClampNeg 97) (16 : Int32).toNatClampNeg 99) (17 : Int32).toNatClampNeg 107) (18 : Int32).toNatClampNeg 32) (19 : Int32).toNatClampNeg 0) (20 : Int32).toNatClampNeg 112) (21 : Int32).toNatClampNeg 117) (22 : Int32).toNatClampNeg 108) (23 : Int32).toNatClampNeg 108) (24 : Int32).toNatClampNeg 32) (25 : Int32).toNatClampNeg 0) (26 : Int32).toNatClampNeg 100) (27 : Int32).toNatClampNeg 101) (28 : Int32).toNatClampNeg 112) (29 : Int32).toNatClampNeg 116) (30 : Int32).toNatClampNeg 104) (31 : Int32).toNatClampNeg 32) (32 : Int32).toNatClampNeg 0) (33 : Int32).toNatClampNeg 115) (34 : Int32).toNatClampNeg 101) (35 : Int32).toNatClampNeg 99) (36 : Int32).toNatClampNeg 111) (37 : Int32).toNatClampNeg 110) (38 : Int32).toNatClampNeg 100) (39 : Int32).toNatClampNeg 115) (40 : Int32).toNatClampNeg 32) (41 : Int32).toNatClampNeg 0) (42 : Int32).toNatClampNeg 104) (43 : Int32).toNatClampNeg 117) (44 : Int32).toNatClampNeg 114) (45 : Int32).toNatClampNeg 114) (46 : Int32).toNatClampNeg 121) (47 : Int32).toNatClampNeg 32) (48 : Int32).toNatClampNeg 0) (49 : Int32).toNatClampNeg 103) (50 : Int32).toNatClampNeg 97) (51 : Int32).toNatClampNeg 112) (52 : Int32).toNatClampNeg 32) (53 : Int32).toNatClampNeg 0) (54 : Int32).toNatClampNeg 99) (55 : Int32).toNatClampNeg 111) (56 : Int32).toNatClampNeg 115) (57 : Int32).toNatClampNeg 116) (58 : Int32).toNatClampNeg 32) (59 : Int32).toNatClampNeg 0) (60 : Int32).toNatClampNeg 97) (61 : Int32).toNatClampNeg 116) (62 : Int32).toNatClampNeg 32) (63 : Int32).toNatClampNeg 0)))]) hP hD rfl
  clear hP hD
  obtain ⟨hP, hD⟩ := h9R
  refine va_putF (D := D) (ci := 8) (v := .ref q_14) (ty := (.array .int)) (C := RX8) (T := TX8) (N := 38) hx hb hts hi_X8_init_8 tyX8 tyX8_ok nmX8 hown hK hP hD hS 0 rfl rfl 23 (by decide) (hts (.fieldLink RX8 66 "TheLiningsInItModel" "words" "[I") (List.mem_of_getElem? (i := 24) rfl)) (fun _ h9 => h9) rfl hin rfl (tyX8_ok 23 (Nat.le_of_ble_eq_true rfl)) rfl rfl (Nat.le_of_ble_eq_true rfl) dX8_init_523 (fun H locs hP hD hS => ?_)
  have h9R := zRe (ws' := [(m0, .inr (8, (.int 0 :: .int 20 :: .int 0 :: .int 0 :: .int 0 :: .int 60 :: .int 0 :: .int 3 :: .int 1 :: .int (-1) :: .ref q_1 :: .ref q_2 :: .ref q_3 :: .ref q_4 :: .ref q_5 :: .ref q_6 :: .ref q_7 :: .ref q_8 :: .ref q_9 :: .ref q_10 :: .ref q_11 :: .ref q_12 :: .ref q_13 :: .ref q_14 :: .null :: .null :: .int 0 :: .int 0 :: .int 0 :: .int 0 :: .int 0 :: .null :: .null :: .null :: .null :: .null :: .int 0 :: .int 0 :: []))), (q_1, .inl (cI, 8, .inl (fun _ => 0))), (q_2, .inl (cI, 8, .inl (fun _ => 0))), (q_3, .inl (cI, 8, .inl (fun _ => 0))), (q_4, .inl (cI, 8, .inl (fun _ => 0))), (q_5, .inl (cI, 40, .inl (fun _ => 0))), (q_6, .inl (cI, 40, .inl (fun _ => 0))), (q_7, .inl (cI, 3, .inl (zL3 5 10 50))), (q_8, .inl (cI, 8, .inl (fun _ => 0))), (q_9, .inl (cI, 8, .inl (fun _ => 0))), (q_10, .inl (cI, 8, .inl (fun _ => 0))), (q_11, .inl (cI, 8, .inl (fun _ => 0))), (q_12, .inl (cJ, 1280, .inr (.inl (fun _ => 0)))), (q_13, .inl (cJ, 160, .inr (.inl (fun _ => 0)))), (q_14, .inl (cI, 64, .inl (upd (upd (upd (upd (upd (upd (upd (upd (upd (upd (upd (upd (upd (upd (upd (upd (upd (upd (upd (upd (upd (upd (upd (upd (upd (upd (upd (upd (upd (upd (upd (upd (upd (upd (upd (upd (upd (upd (upd (upd (upd (upd (upd (upd (upd (upd (upd (upd (upd (upd (upd (upd (upd (upd (upd (upd (upd (upd (upd (upd (upd (upd (upd (upd (fun _ => 0) (0 : Int32).toNatClampNeg 116) (1 : Int32).toNatClampNeg 101) (2 : Int32).toNatClampNeg 101) (3 : Int32).toNatClampNeg 116) (4 : Int32).toNatClampNeg 104) (5 : Int32).toNatClampNeg 32) (6 : Int32).toNatClampNeg 0) (7 : Int32).toNatClampNeg 108) (8 : Int32).toNatClampNeg 97) (9 : Int32).toNatClampNeg 99) (10 : Int32).toNatClampNeg 107) (11 : Int32).toNatClampNeg 32) (12 : Int32).toNatClampNeg 0) (13 : Int32).toNatClampNeg 115) (14 : Int32).toNatClampNeg 108) (15 : Int32).toNatClampNeg 97) (16 : Int32).toNatClampNeg 99) (17 : Int32).toNatClampNeg 107) (18 : Int32).toNatClampNeg 32) (19 : Int32).toNatClampNeg 0) (20 : Int32).toNatClampNeg 112) (21 : Int32).toNatClampNeg 117) (22 : Int32).toNatClampNeg 108) (23 : Int32).toNatClampNeg 108) (24 : Int32).toNatClampNeg 32) (25 : Int32).toNatClampNeg 0) (26 : Int32).toNatClampNeg 100) (27 : Int32).toNatClampNeg 101) (28 : Int32).toNatClampNeg 112) (29 : Int32).toNatClampNeg 116) (30 : Int32).toNatClampNeg 104) (31 : Int32).toNatClampNeg 32) (32 : Int32).toNatClampNeg 0) (33 : Int32).toNatClampNeg 115) (34 : Int32).toNatClampNeg 101) (35 : Int32).toNatClampNeg 99) (36 : Int32).toNatClampNeg 111) (37 : Int32).toNatClampNeg 110) (38 : Int32).toNatClampNeg 100) (39 : Int32).toNatClampNeg 115) (40 : Int32).toNatClampNeg 32) (41 : Int32).toNatClampNeg 0) (42 : Int32).toNatClampNeg 104) (43 : Int32).toNatClampNeg 117) (44 : Int32).toNatClampNeg 114) (45 : Int32).toNatClampNeg 114) (46 : Int32).toNatClampNeg 121) (47 : Int32).toNatClampNeg 32) (48 : Int32).toNatClampNeg 0) (49 : Int32).toNatClampNeg 103) (50 : Int32).toNatClampNeg 97) (51 : Int32).toNatClampNeg 112) (52 : Int32).toNatClampNeg 32) (53 : Int32).toNatClampNeg 0) (54 : Int32).toNatClampNeg 99) (55 : Int32).toNatClampNeg 111) (56 : Int32).toNatClampNeg 115) (57 : Int32).toNatClampNeg 116) (58 : Int32).toNatClampNeg 32) (59 : Int32).toNatClampNeg 0) (60 : Int32).toNatClampNeg 97) (61 : Int32).toNatClampNeg 116) (62 : Int32).toNatClampNeg 32) (63 : Int32).toNatClampNeg 0)))]) hP hD rfl
  clear hP hD
  obtain ⟨hP, hD⟩ := h9R
  refine lv_aload_n hx hb dX8_init_526 rfl (lv_at hl 0 rfl) ?_
  refine lv_bipush (v := 10) hx hb dX8_init_527 (by decide) ?_
  refine va_newa hx hb (atype := .int) (hts _ (List.mem_of_getElem? (i := 9) rfl)) rfl hK hP hD hS hA (N' := 10) (a0 := (10, .inl (fun _ => 0))) (fun _ => rfl) (by decide) (by decide) (Nat.le_of_ble_eq_true rfl) (Nat.le_of_ble_eq_true rfl) (Nat.le_of_ble_eq_true rfl) dX8_init_529 (fun q_15 cA H hK1 hP hD hS => ?_)
  obtain rfl : cI = cA := zk_eqI (k := 0) hK rfl hK1
  have h9R := zRe (ws' := [(m0, .inr (8, (.int 0 :: .int 20 :: .int 0 :: .int 0 :: .int 0 :: .int 60 :: .int 0 :: .int 3 :: .int 1 :: .int (-1) :: .ref q_1 :: .ref q_2 :: .ref q_3 :: .ref q_4 :: .ref q_5 :: .ref q_6 :: .ref q_7 :: .ref q_8 :: .ref q_9 :: .ref q_10 :: .ref q_11 :: .ref q_12 :: .ref q_13 :: .ref q_14 :: .null :: .null :: .int 0 :: .int 0 :: .int 0 :: .int 0 :: .int 0 :: .null :: .null :: .null :: .null :: .null :: .int 0 :: .int 0 :: []))), (q_1, .inl (cI, 8, .inl (fun _ => 0))), (q_2, .inl (cI, 8, .inl (fun _ => 0))), (q_3, .inl (cI, 8, .inl (fun _ => 0))), (q_4, .inl (cI, 8, .inl (fun _ => 0))), (q_5, .inl (cI, 40, .inl (fun _ => 0))), (q_6, .inl (cI, 40, .inl (fun _ => 0))), (q_7, .inl (cI, 3, .inl (zL3 5 10 50))), (q_8, .inl (cI, 8, .inl (fun _ => 0))), (q_9, .inl (cI, 8, .inl (fun _ => 0))), (q_10, .inl (cI, 8, .inl (fun _ => 0))), (q_11, .inl (cI, 8, .inl (fun _ => 0))), (q_12, .inl (cJ, 1280, .inr (.inl (fun _ => 0)))), (q_13, .inl (cJ, 160, .inr (.inl (fun _ => 0)))), (q_14, .inl (cI, 64, .inl (upd (upd (upd (upd (upd (upd (upd (upd (upd (upd (upd (upd (upd (upd (upd (upd (upd (upd (upd (upd (upd (upd (upd (upd (upd (upd (upd (upd (upd (upd (upd (upd (upd (upd (upd (upd (upd (upd (upd (upd (upd (upd (upd (upd (upd (upd (upd (upd (upd (upd (upd (upd (upd (upd (upd (upd (upd (upd (upd (upd (upd (upd (upd (upd (fun _ => 0) (0 : Int32).toNatClampNeg 116) (1 : Int32).toNatClampNeg 101) (2 : Int32).toNatClampNeg 101) (3 : Int32).toNatClampNeg 116) (4 : Int32).toNatClampNeg 104) (5 : Int32).toNatClampNeg 32) (6 : Int32).toNatClampNeg 0) (7 : Int32).toNatClampNeg 108) (8 : Int32).toNatClampNeg 97) (9 : Int32).toNatClampNeg 99) (10 : Int32).toNatClampNeg 107) (11 : Int32).toNatClampNeg 32) (12 : Int32).toNatClampNeg 0) (13 : Int32).toNatClampNeg 115) (14 : Int32).toNatClampNeg 108) (15 : Int32).toNatClampNeg 97) (16 : Int32).toNatClampNeg 99) (17 : Int32).toNatClampNeg 107) (18 : Int32).toNatClampNeg 32) (19 : Int32).toNatClampNeg 0) (20 : Int32).toNatClampNeg 112) (21 : Int32).toNatClampNeg 117) (22 : Int32).toNatClampNeg 108) (23 : Int32).toNatClampNeg 108) (24 : Int32).toNatClampNeg 32) (25 : Int32).toNatClampNeg 0) (26 : Int32).toNatClampNeg 100) (27 : Int32).toNatClampNeg 101) (28 : Int32).toNatClampNeg 112) (29 : Int32).toNatClampNeg 116) (30 : Int32).toNatClampNeg 104) (31 : Int32).toNatClampNeg 32) (32 : Int32).toNatClampNeg 0) (33 : Int32).toNatClampNeg 115) (34 : Int32).toNatClampNeg 101) (35 : Int32).toNatClampNeg 99) (36 : Int32).toNatClampNeg 111) (37 : Int32).toNatClampNeg 110) (38 : Int32).toNatClampNeg 100) (39 : Int32).toNatClampNeg 115) (40 : Int32).toNatClampNeg 32) (41 : Int32).toNatClampNeg 0) (42 : Int32).toNatClampNeg 104) (43 : Int32).toNatClampNeg 117) (44 : Int32).toNatClampNeg 114) (45 : Int32).toNatClampNeg 114) (46 : Int32).toNatClampNeg 121) (47 : Int32).toNatClampNeg 32) (48 : Int32).toNatClampNeg 0) (49 : Int32).toNatClampNeg 103) (50 : Int32).toNatClampNeg 97) (51 : Int32).toNatClampNeg 112) (52 : Int32).toNatClampNeg 32) (53 : Int32).toNatClampNeg 0) (54 : Int32).toNatClampNeg 99) (55 : Int32).toNatClampNeg 111) (56 : Int32).toNatClampNeg 115) (57 : Int32).toNatClampNeg 116) (58 : Int32).toNatClampNeg 32) (59 : Int32).toNatClampNeg 0) (60 : Int32).toNatClampNeg 97) (61 : Int32).toNatClampNeg 116) (62 : Int32).toNatClampNeg 32) (63 : Int32).toNatClampNeg 0))), (q_15, .inl (cI, 10, .inl (fun _ => 0)))]) hP hD rfl
  clear hP hD
  obtain ⟨hP, hD⟩ := h9R
  refine W.widen (k := 15) (n := 1661) (Nat.le_of_ble_eq_true rfl) (Nat.le_of_ble_eq_true rfl) ?_
  refine lv_dup hx hb dX8_init_531 rfl ?_
  refine lv_iconst (v := 0) hx hb dX8_init_532 (by decide) ?_
  refine lv_iconst (v := 1) hx hb dX8_init_533 (by decide) ?_
  refine va_iast hx hb hK hP hD hS 15 0 rfl rfl (zf_in (by decide) (by decide)) dX8_init_534 (fun H locs hP hD hS => ?_)
  refine lv_dup hx hb dX8_init_535 rfl ?_
  refine lv_iconst (v := 1) hx hb dX8_init_536 (by decide) ?_
  refine lv_iconst (v := 1) hx hb dX8_init_537 (by decide) ?_
  refine va_iast hx hb hK hP hD hS 15 0 rfl rfl (zf_in (by decide) (by decide)) dX8_init_538 (fun H locs hP hD hS => ?_)
  have h9R := zRe (ws' := [(m0, .inr (8, (.int 0 :: .int 20 :: .int 0 :: .int 0 :: .int 0 :: .int 60 :: .int 0 :: .int 3 :: .int 1 :: .int (-1) :: .ref q_1 :: .ref q_2 :: .ref q_3 :: .ref q_4 :: .ref q_5 :: .ref q_6 :: .ref q_7 :: .ref q_8 :: .ref q_9 :: .ref q_10 :: .ref q_11 :: .ref q_12 :: .ref q_13 :: .ref q_14 :: .null :: .null :: .int 0 :: .int 0 :: .int 0 :: .int 0 :: .int 0 :: .null :: .null :: .null :: .null :: .null :: .int 0 :: .int 0 :: []))), (q_1, .inl (cI, 8, .inl (fun _ => 0))), (q_2, .inl (cI, 8, .inl (fun _ => 0))), (q_3, .inl (cI, 8, .inl (fun _ => 0))), (q_4, .inl (cI, 8, .inl (fun _ => 0))), (q_5, .inl (cI, 40, .inl (fun _ => 0))), (q_6, .inl (cI, 40, .inl (fun _ => 0))), (q_7, .inl (cI, 3, .inl (zL3 5 10 50))), (q_8, .inl (cI, 8, .inl (fun _ => 0))), (q_9, .inl (cI, 8, .inl (fun _ => 0))), (q_10, .inl (cI, 8, .inl (fun _ => 0))), (q_11, .inl (cI, 8, .inl (fun _ => 0))), (q_12, .inl (cJ, 1280, .inr (.inl (fun _ => 0)))), (q_13, .inl (cJ, 160, .inr (.inl (fun _ => 0)))), (q_14, .inl (cI, 64, .inl (upd (upd (upd (upd (upd (upd (upd (upd (upd (upd (upd (upd (upd (upd (upd (upd (upd (upd (upd (upd (upd (upd (upd (upd (upd (upd (upd (upd (upd (upd (upd (upd (upd (upd (upd (upd (upd (upd (upd (upd (upd (upd (upd (upd (upd (upd (upd (upd (upd (upd (upd (upd (upd (upd (upd (upd (upd (upd (upd (upd (upd (upd (upd (upd (fun _ => 0) (0 : Int32).toNatClampNeg 116) (1 : Int32).toNatClampNeg 101) (2 : Int32).toNatClampNeg 101) (3 : Int32).toNatClampNeg 116) (4 : Int32).toNatClampNeg 104) (5 : Int32).toNatClampNeg 32) (6 : Int32).toNatClampNeg 0) (7 : Int32).toNatClampNeg 108) (8 : Int32).toNatClampNeg 97) (9 : Int32).toNatClampNeg 99) (10 : Int32).toNatClampNeg 107) (11 : Int32).toNatClampNeg 32) (12 : Int32).toNatClampNeg 0) (13 : Int32).toNatClampNeg 115) (14 : Int32).toNatClampNeg 108) (15 : Int32).toNatClampNeg 97) (16 : Int32).toNatClampNeg 99) (17 : Int32).toNatClampNeg 107) (18 : Int32).toNatClampNeg 32) (19 : Int32).toNatClampNeg 0) (20 : Int32).toNatClampNeg 112) (21 : Int32).toNatClampNeg 117) (22 : Int32).toNatClampNeg 108) (23 : Int32).toNatClampNeg 108) (24 : Int32).toNatClampNeg 32) (25 : Int32).toNatClampNeg 0) (26 : Int32).toNatClampNeg 100) (27 : Int32).toNatClampNeg 101) (28 : Int32).toNatClampNeg 112) (29 : Int32).toNatClampNeg 116) (30 : Int32).toNatClampNeg 104) (31 : Int32).toNatClampNeg 32) (32 : Int32).toNatClampNeg 0) (33 : Int32).toNatClampNeg 115) (34 : Int32).toNatClampNeg 101) (35 : Int32).toNatClampNeg 99) (36 : Int32).toNatClampNeg 111) (37 : Int32).toNatClampNeg 110) (38 : Int32).toNatClampNeg 100) (39 : Int32).toNatClampNeg 115) (40 : Int32).toNatClampNeg 32) (41 : Int32).toNatClampNeg 0) (42 : Int32).toNatClampNeg 104) (43 : Int32).toNatClampNeg 117) (44 : Int32).toNatClampNeg 114) (45 : Int32).toNatClampNeg 114) (46 : Int32).toNatClampNeg 121) (47 : Int32).toNatClampNeg 32) (48 : Int32).toNatClampNeg 0) (49 : Int32).toNatClampNeg 103) (50 : Int32).toNatClampNeg 97) (51 : Int32).toNatClampNeg 112) (52 : Int32).toNatClampNeg 32) (53 : Int32).toNatClampNeg 0) (54 : Int32).toNatClampNeg 99) (55 : Int32).toNatClampNeg 111) (56 : Int32).toNatClampNeg 115) (57 : Int32).toNatClampNeg 116) (58 : Int32).toNatClampNeg 32) (59 : Int32).toNatClampNeg 0) (60 : Int32).toNatClampNeg 97) (61 : Int32).toNatClampNeg 116) (62 : Int32).toNatClampNeg 32) (63 : Int32).toNatClampNeg 0))), (q_15, .inl (cI, 10, .inl (upd (upd (fun _ => 0) (0 : Int32).toNatClampNeg 1) (1 : Int32).toNatClampNeg 1)))]) hP hD rfl
  clear hP hD
  obtain ⟨hP, hD⟩ := h9R
  refine lv_dup hx hb dX8_init_539 rfl ?_
  refine lv_iconst (v := 2) hx hb dX8_init_540 (by decide) ?_
  refine lv_iconst (v := 2) hx hb dX8_init_541 (by decide) ?_
  refine va_iast hx hb hK hP hD hS 15 0 rfl rfl (zf_in (by decide) (by decide)) dX8_init_542 (fun H locs hP hD hS => ?_)
  refine lv_dup hx hb dX8_init_543 rfl ?_
  refine lv_iconst (v := 3) hx hb dX8_init_544 (by decide) ?_
  refine lv_iconst (v := 3) hx hb dX8_init_545 (by decide) ?_
  refine va_iast hx hb hK hP hD hS 15 0 rfl rfl (zf_in (by decide) (by decide)) dX8_init_546 (fun H locs hP hD hS => ?_)
  refine lv_dup hx hb dX8_init_547 rfl ?_
  refine lv_iconst (v := 4) hx hb dX8_init_548 (by decide) ?_
  refine lv_iconst (v := 1) hx hb dX8_init_549 (by decide) ?_
  refine va_iast hx hb hK hP hD hS 15 0 rfl rfl (zf_in (by decide) (by decide)) dX8_init_550 (fun H locs hP hD hS => ?_)
  refine lv_dup hx hb dX8_init_551 rfl ?_
  refine lv_iconst (v := 5) hx hb dX8_init_552 (by decide) ?_
  refine lv_iconst (v := 1) hx hb dX8_init_553 (by decide) ?_
  refine va_iast hx hb hK hP hD hS 15 0 rfl rfl (zf_in (by decide) (by decide)) dX8_init_554 (fun H locs hP hD hS => ?_)
  refine lv_dup hx hb dX8_init_555 rfl ?_
  refine lv_bipush (v := 6) hx hb dX8_init_556 (by decide) ?_
  refine lv_iconst (v := 1) hx hb dX8_init_558 (by decide) ?_
  refine va_iast hx hb hK hP hD hS 15 0 rfl rfl (zf_in (by decide) (by decide)) dX8_init_559 (fun H locs hP hD hS => ?_)
  refine lv_dup hx hb dX8_init_560 rfl ?_
  refine lv_bipush (v := 7) hx hb dX8_init_561 (by decide) ?_
  refine lv_iconst (v := 1) hx hb dX8_init_563 (by decide) ?_
  refine va_iast hx hb hK hP hD hS 15 0 rfl rfl (zf_in (by decide) (by decide)) dX8_init_564 (fun H locs hP hD hS => ?_)
  have h9R := zRe (ws' := [(m0, .inr (8, (.int 0 :: .int 20 :: .int 0 :: .int 0 :: .int 0 :: .int 60 :: .int 0 :: .int 3 :: .int 1 :: .int (-1) :: .ref q_1 :: .ref q_2 :: .ref q_3 :: .ref q_4 :: .ref q_5 :: .ref q_6 :: .ref q_7 :: .ref q_8 :: .ref q_9 :: .ref q_10 :: .ref q_11 :: .ref q_12 :: .ref q_13 :: .ref q_14 :: .null :: .null :: .int 0 :: .int 0 :: .int 0 :: .int 0 :: .int 0 :: .null :: .null :: .null :: .null :: .null :: .int 0 :: .int 0 :: []))), (q_1, .inl (cI, 8, .inl (fun _ => 0))), (q_2, .inl (cI, 8, .inl (fun _ => 0))), (q_3, .inl (cI, 8, .inl (fun _ => 0))), (q_4, .inl (cI, 8, .inl (fun _ => 0))), (q_5, .inl (cI, 40, .inl (fun _ => 0))), (q_6, .inl (cI, 40, .inl (fun _ => 0))), (q_7, .inl (cI, 3, .inl (zL3 5 10 50))), (q_8, .inl (cI, 8, .inl (fun _ => 0))), (q_9, .inl (cI, 8, .inl (fun _ => 0))), (q_10, .inl (cI, 8, .inl (fun _ => 0))), (q_11, .inl (cI, 8, .inl (fun _ => 0))), (q_12, .inl (cJ, 1280, .inr (.inl (fun _ => 0)))), (q_13, .inl (cJ, 160, .inr (.inl (fun _ => 0)))), (q_14, .inl (cI, 64, .inl (upd (upd (upd (upd (upd (upd (upd (upd (upd (upd (upd (upd (upd (upd (upd (upd (upd (upd (upd (upd (upd (upd (upd (upd (upd (upd (upd (upd (upd (upd (upd (upd (upd (upd (upd (upd (upd (upd (upd (upd (upd (upd (upd (upd (upd (upd (upd (upd (upd (upd (upd (upd (upd (upd (upd (upd (upd (upd (upd (upd (upd (upd (upd (upd (fun _ => 0) (0 : Int32).toNatClampNeg 116) (1 : Int32).toNatClampNeg 101) (2 : Int32).toNatClampNeg 101) (3 : Int32).toNatClampNeg 116) (4 : Int32).toNatClampNeg 104) (5 : Int32).toNatClampNeg 32) (6 : Int32).toNatClampNeg 0) (7 : Int32).toNatClampNeg 108) (8 : Int32).toNatClampNeg 97) (9 : Int32).toNatClampNeg 99) (10 : Int32).toNatClampNeg 107) (11 : Int32).toNatClampNeg 32) (12 : Int32).toNatClampNeg 0) (13 : Int32).toNatClampNeg 115) (14 : Int32).toNatClampNeg 108) (15 : Int32).toNatClampNeg 97) (16 : Int32).toNatClampNeg 99) (17 : Int32).toNatClampNeg 107) (18 : Int32).toNatClampNeg 32) (19 : Int32).toNatClampNeg 0) (20 : Int32).toNatClampNeg 112) (21 : Int32).toNatClampNeg 117) (22 : Int32).toNatClampNeg 108) (23 : Int32).toNatClampNeg 108) (24 : Int32).toNatClampNeg 32) (25 : Int32).toNatClampNeg 0) (26 : Int32).toNatClampNeg 100) (27 : Int32).toNatClampNeg 101) (28 : Int32).toNatClampNeg 112) (29 : Int32).toNatClampNeg 116) (30 : Int32).toNatClampNeg 104) (31 : Int32).toNatClampNeg 32) (32 : Int32).toNatClampNeg 0) (33 : Int32).toNatClampNeg 115) (34 : Int32).toNatClampNeg 101) (35 : Int32).toNatClampNeg 99) (36 : Int32).toNatClampNeg 111) (37 : Int32).toNatClampNeg 110) (38 : Int32).toNatClampNeg 100) (39 : Int32).toNatClampNeg 115) (40 : Int32).toNatClampNeg 32) (41 : Int32).toNatClampNeg 0) (42 : Int32).toNatClampNeg 104) (43 : Int32).toNatClampNeg 117) (44 : Int32).toNatClampNeg 114) (45 : Int32).toNatClampNeg 114) (46 : Int32).toNatClampNeg 121) (47 : Int32).toNatClampNeg 32) (48 : Int32).toNatClampNeg 0) (49 : Int32).toNatClampNeg 103) (50 : Int32).toNatClampNeg 97) (51 : Int32).toNatClampNeg 112) (52 : Int32).toNatClampNeg 32) (53 : Int32).toNatClampNeg 0) (54 : Int32).toNatClampNeg 99) (55 : Int32).toNatClampNeg 111) (56 : Int32).toNatClampNeg 115) (57 : Int32).toNatClampNeg 116) (58 : Int32).toNatClampNeg 32) (59 : Int32).toNatClampNeg 0) (60 : Int32).toNatClampNeg 97) (61 : Int32).toNatClampNeg 116) (62 : Int32).toNatClampNeg 32) (63 : Int32).toNatClampNeg 0))), (q_15, .inl (cI, 10, .inl (upd (upd (upd (upd (upd (upd (upd (upd (fun _ => 0) (0 : Int32).toNatClampNeg 1) (1 : Int32).toNatClampNeg 1) (2 : Int32).toNatClampNeg 2) (3 : Int32).toNatClampNeg 3) (4 : Int32).toNatClampNeg 1) (5 : Int32).toNatClampNeg 1) (6 : Int32).toNatClampNeg 1) (7 : Int32).toNatClampNeg 1)))]) hP hD rfl
  clear hP hD
  obtain ⟨hP, hD⟩ := h9R
  refine lv_dup hx hb dX8_init_565 rfl ?_
  refine lv_bipush (v := 8) hx hb dX8_init_566 (by decide) ?_
  refine lv_iconst (v := 2) hx hb dX8_init_568 (by decide) ?_
  refine va_iast hx hb hK hP hD hS 15 0 rfl rfl (zf_in (by decide) (by decide)) dX8_init_569 (fun H locs hP hD hS => ?_)
  refine lv_dup hx hb dX8_init_570 rfl ?_
  refine lv_bipush (v := 9) hx hb dX8_init_571 (by decide) ?_
  refine lv_iconst (v := 1) hx hb dX8_init_573 (by decide) ?_
  refine va_iast hx hb hK hP hD hS 15 0 rfl rfl (zf_in (by decide) (by decide)) dX8_init_574 (fun H locs hP hD hS => ?_)
  have h9R := zRe (ws' := [(m0, .inr (8, (.int 0 :: .int 20 :: .int 0 :: .int 0 :: .int 0 :: .int 60 :: .int 0 :: .int 3 :: .int 1 :: .int (-1) :: .ref q_1 :: .ref q_2 :: .ref q_3 :: .ref q_4 :: .ref q_5 :: .ref q_6 :: .ref q_7 :: .ref q_8 :: .ref q_9 :: .ref q_10 :: .ref q_11 :: .ref q_12 :: .ref q_13 :: .ref q_14 :: .null :: .null :: .int 0 :: .int 0 :: .int 0 :: .int 0 :: .int 0 :: .null :: .null :: .null :: .null :: .null :: .int 0 :: .int 0 :: []))), (q_1, .inl (cI, 8, .inl (fun _ => 0))), (q_2, .inl (cI, 8, .inl (fun _ => 0))), (q_3, .inl (cI, 8, .inl (fun _ => 0))), (q_4, .inl (cI, 8, .inl (fun _ => 0))), (q_5, .inl (cI, 40, .inl (fun _ => 0))), (q_6, .inl (cI, 40, .inl (fun _ => 0))), (q_7, .inl (cI, 3, .inl (zL3 5 10 50))), (q_8, .inl (cI, 8, .inl (fun _ => 0))), (q_9, .inl (cI, 8, .inl (fun _ => 0))), (q_10, .inl (cI, 8, .inl (fun _ => 0))), (q_11, .inl (cI, 8, .inl (fun _ => 0))), (q_12, .inl (cJ, 1280, .inr (.inl (fun _ => 0)))), (q_13, .inl (cJ, 160, .inr (.inl (fun _ => 0)))), (q_14, .inl (cI, 64, .inl (upd (upd (upd (upd (upd (upd (upd (upd (upd (upd (upd (upd (upd (upd (upd (upd (upd (upd (upd (upd (upd (upd (upd (upd (upd (upd (upd (upd (upd (upd (upd (upd (upd (upd (upd (upd (upd (upd (upd (upd (upd (upd (upd (upd (upd (upd (upd (upd (upd (upd (upd (upd (upd (upd (upd (upd (upd (upd (upd (upd (upd (upd (upd (upd (fun _ => 0) (0 : Int32).toNatClampNeg 116) (1 : Int32).toNatClampNeg 101) (2 : Int32).toNatClampNeg 101) (3 : Int32).toNatClampNeg 116) (4 : Int32).toNatClampNeg 104) (5 : Int32).toNatClampNeg 32) (6 : Int32).toNatClampNeg 0) (7 : Int32).toNatClampNeg 108) (8 : Int32).toNatClampNeg 97) (9 : Int32).toNatClampNeg 99) (10 : Int32).toNatClampNeg 107) (11 : Int32).toNatClampNeg 32) (12 : Int32).toNatClampNeg 0) (13 : Int32).toNatClampNeg 115) (14 : Int32).toNatClampNeg 108) (15 : Int32).toNatClampNeg 97) (16 : Int32).toNatClampNeg 99) (17 : Int32).toNatClampNeg 107) (18 : Int32).toNatClampNeg 32) (19 : Int32).toNatClampNeg 0) (20 : Int32).toNatClampNeg 112) (21 : Int32).toNatClampNeg 117) (22 : Int32).toNatClampNeg 108) (23 : Int32).toNatClampNeg 108) (24 : Int32).toNatClampNeg 32) (25 : Int32).toNatClampNeg 0) (26 : Int32).toNatClampNeg 100) (27 : Int32).toNatClampNeg 101) (28 : Int32).toNatClampNeg 112) (29 : Int32).toNatClampNeg 116) (30 : Int32).toNatClampNeg 104) (31 : Int32).toNatClampNeg 32) (32 : Int32).toNatClampNeg 0) (33 : Int32).toNatClampNeg 115) (34 : Int32).toNatClampNeg 101) (35 : Int32).toNatClampNeg 99) (36 : Int32).toNatClampNeg 111) (37 : Int32).toNatClampNeg 110) (38 : Int32).toNatClampNeg 100) (39 : Int32).toNatClampNeg 115) (40 : Int32).toNatClampNeg 32) (41 : Int32).toNatClampNeg 0) (42 : Int32).toNatClampNeg 104) (43 : Int32).toNatClampNeg 117) (44 : Int32).toNatClampNeg 114) (45 : Int32).toNatClampNeg 114) (46 : Int32).toNatClampNeg 121) (47 : Int32).toNatClampNeg 32) (48 : Int32).toNatClampNeg 0) (49 : Int32).toNatClampNeg 103) (50 : Int32).toNatClampNeg 97) (51 : Int32).toNatClampNeg 112) (52 : Int32).toNatClampNeg 32) (53 : Int32).toNatClampNeg 0) (54 : Int32).toNatClampNeg 99) (55 : Int32).toNatClampNeg 111) (56 : Int32).toNatClampNeg 115) (57 : Int32).toNatClampNeg 116) (58 : Int32).toNatClampNeg 32) (59 : Int32).toNatClampNeg 0) (60 : Int32).toNatClampNeg 97) (61 : Int32).toNatClampNeg 116) (62 : Int32).toNatClampNeg 32) (63 : Int32).toNatClampNeg 0))), (q_15, .inl (cI, 10, .inl (upd (upd (upd (upd (upd (upd (upd (upd (upd (upd (fun _ => 0) (0 : Int32).toNatClampNeg 1) (1 : Int32).toNatClampNeg 1) (2 : Int32).toNatClampNeg 2) (3 : Int32).toNatClampNeg 3) (4 : Int32).toNatClampNeg 1) (5 : Int32).toNatClampNeg 1) (6 : Int32).toNatClampNeg 1) (7 : Int32).toNatClampNeg 1) (8 : Int32).toNatClampNeg 2) (9 : Int32).toNatClampNeg 1)))]) hP hD rfl
  clear hP hD
  obtain ⟨hP, hD⟩ := h9R
  refine va_putF (D := D) (ci := 8) (v := .ref q_15) (ty := (.array .int)) (C := RX8) (T := TX8) (N := 38) hx hb hts hi_X8_init_8 tyX8 tyX8_ok nmX8 hown hK hP hD hS 0 rfl rfl 24 (by decide) (hts (.fieldLink RX8 69 "TheLiningsInItModel" "numbers" "[I") (List.mem_of_getElem? (i := 25) rfl)) (fun _ h9 => h9) rfl hin rfl (tyX8_ok 24 (Nat.le_of_ble_eq_true rfl)) rfl rfl (Nat.le_of_ble_eq_true rfl) dX8_init_575 (fun H locs hP hD hS => ?_)
  have h9R := zRe (ws' := [(m0, .inr (8, (.int 0 :: .int 20 :: .int 0 :: .int 0 :: .int 0 :: .int 60 :: .int 0 :: .int 3 :: .int 1 :: .int (-1) :: .ref q_1 :: .ref q_2 :: .ref q_3 :: .ref q_4 :: .ref q_5 :: .ref q_6 :: .ref q_7 :: .ref q_8 :: .ref q_9 :: .ref q_10 :: .ref q_11 :: .ref q_12 :: .ref q_13 :: .ref q_14 :: .ref q_15 :: .null :: .int 0 :: .int 0 :: .int 0 :: .int 0 :: .int 0 :: .null :: .null :: .null :: .null :: .null :: .int 0 :: .int 0 :: []))), (q_1, .inl (cI, 8, .inl (fun _ => 0))), (q_2, .inl (cI, 8, .inl (fun _ => 0))), (q_3, .inl (cI, 8, .inl (fun _ => 0))), (q_4, .inl (cI, 8, .inl (fun _ => 0))), (q_5, .inl (cI, 40, .inl (fun _ => 0))), (q_6, .inl (cI, 40, .inl (fun _ => 0))), (q_7, .inl (cI, 3, .inl (zL3 5 10 50))), (q_8, .inl (cI, 8, .inl (fun _ => 0))), (q_9, .inl (cI, 8, .inl (fun _ => 0))), (q_10, .inl (cI, 8, .inl (fun _ => 0))), (q_11, .inl (cI, 8, .inl (fun _ => 0))), (q_12, .inl (cJ, 1280, .inr (.inl (fun _ => 0)))), (q_13, .inl (cJ, 160, .inr (.inl (fun _ => 0)))), (q_14, .inl (cI, 64, .inl (upd (upd (upd (upd (upd (upd (upd (upd (upd (upd (upd (upd (upd (upd (upd (upd (upd (upd (upd (upd (upd (upd (upd (upd (upd (upd (upd (upd (upd (upd (upd (upd (upd (upd (upd (upd (upd (upd (upd (upd (upd (upd (upd (upd (upd (upd (upd (upd (upd (upd (upd (upd (upd (upd (upd (upd (upd (upd (upd (upd (upd (upd (upd (upd (fun _ => 0) (0 : Int32).toNatClampNeg 116) (1 : Int32).toNatClampNeg 101) (2 : Int32).toNatClampNeg 101) (3 : Int32).toNatClampNeg 116) (4 : Int32).toNatClampNeg 104) (5 : Int32).toNatClampNeg 32) (6 : Int32).toNatClampNeg 0) (7 : Int32).toNatClampNeg 108) (8 : Int32).toNatClampNeg 97) (9 : Int32).toNatClampNeg 99) (10 : Int32).toNatClampNeg 107) (11 : Int32).toNatClampNeg 32) (12 : Int32).toNatClampNeg 0) (13 : Int32).toNatClampNeg 115) (14 : Int32).toNatClampNeg 108) (15 : Int32).toNatClampNeg 97) (16 : Int32).toNatClampNeg 99) (17 : Int32).toNatClampNeg 107) (18 : Int32).toNatClampNeg 32) (19 : Int32).toNatClampNeg 0) (20 : Int32).toNatClampNeg 112) (21 : Int32).toNatClampNeg 117) (22 : Int32).toNatClampNeg 108) (23 : Int32).toNatClampNeg 108) (24 : Int32).toNatClampNeg 32) (25 : Int32).toNatClampNeg 0) (26 : Int32).toNatClampNeg 100) (27 : Int32).toNatClampNeg 101) (28 : Int32).toNatClampNeg 112) (29 : Int32).toNatClampNeg 116) (30 : Int32).toNatClampNeg 104) (31 : Int32).toNatClampNeg 32) (32 : Int32).toNatClampNeg 0) (33 : Int32).toNatClampNeg 115) (34 : Int32).toNatClampNeg 101) (35 : Int32).toNatClampNeg 99) (36 : Int32).toNatClampNeg 111) (37 : Int32).toNatClampNeg 110) (38 : Int32).toNatClampNeg 100) (39 : Int32).toNatClampNeg 115) (40 : Int32).toNatClampNeg 32) (41 : Int32).toNatClampNeg 0) (42 : Int32).toNatClampNeg 104) (43 : Int32).toNatClampNeg 117) (44 : Int32).toNatClampNeg 114) (45 : Int32).toNatClampNeg 114) (46 : Int32).toNatClampNeg 121) (47 : Int32).toNatClampNeg 32) (48 : Int32).toNatClampNeg 0) (49 : Int32).toNatClampNeg 103) (50 : Int32).toNatClampNeg 97) (51 : Int32).toNatClampNeg 112) (52 : Int32).toNatClampNeg 32) (53 : Int32).toNatClampNeg 0) (54 : Int32).toNatClampNeg 99) (55 : Int32).toNatClampNeg 111) (56 : Int32).toNatClampNeg 115) (57 : Int32).toNatClampNeg 116) (58 : Int32).toNatClampNeg 32) (59 : Int32).toNatClampNeg 0) (60 : Int32).toNatClampNeg 97) (61 : Int32).toNatClampNeg 116) (62 : Int32).toNatClampNeg 32) (63 : Int32).toNatClampNeg 0))), (q_15, .inl (cI, 10, .inl (upd (upd (upd (upd (upd (upd (upd (upd (upd (upd (fun _ => 0) (0 : Int32).toNatClampNeg 1) (1 : Int32).toNatClampNeg 1) (2 : Int32).toNatClampNeg 2) (3 : Int32).toNatClampNeg 3) (4 : Int32).toNatClampNeg 1) (5 : Int32).toNatClampNeg 1) (6 : Int32).toNatClampNeg 1) (7 : Int32).toNatClampNeg 1) (8 : Int32).toNatClampNeg 2) (9 : Int32).toNatClampNeg 1)))]) hP hD rfl
  clear hP hD
  obtain ⟨hP, hD⟩ := h9R
  refine lv_aload_n hx hb dX8_init_578 rfl (lv_at hl 0 rfl) ?_
  refine lv_iconst (v := 3) hx hb dX8_init_579 (by decide) ?_
  refine va_newa hx hb (atype := .int) (hts _ (List.mem_of_getElem? (i := 9) rfl)) rfl hK hP hD hS hA (N' := 3) (a0 := (3, .inl (fun _ => 0))) (fun _ => rfl) (by decide) (by decide) (Nat.le_of_ble_eq_true rfl) (Nat.le_of_ble_eq_true rfl) (Nat.le_of_ble_eq_true rfl) dX8_init_580 (fun q_16 cA H hK1 hP hD hS => ?_)
  obtain rfl : cI = cA := zk_eqI (k := 0) hK rfl hK1
  have h9R := zRe (ws' := [(m0, .inr (8, (.int 0 :: .int 20 :: .int 0 :: .int 0 :: .int 0 :: .int 60 :: .int 0 :: .int 3 :: .int 1 :: .int (-1) :: .ref q_1 :: .ref q_2 :: .ref q_3 :: .ref q_4 :: .ref q_5 :: .ref q_6 :: .ref q_7 :: .ref q_8 :: .ref q_9 :: .ref q_10 :: .ref q_11 :: .ref q_12 :: .ref q_13 :: .ref q_14 :: .ref q_15 :: .null :: .int 0 :: .int 0 :: .int 0 :: .int 0 :: .int 0 :: .null :: .null :: .null :: .null :: .null :: .int 0 :: .int 0 :: []))), (q_1, .inl (cI, 8, .inl (fun _ => 0))), (q_2, .inl (cI, 8, .inl (fun _ => 0))), (q_3, .inl (cI, 8, .inl (fun _ => 0))), (q_4, .inl (cI, 8, .inl (fun _ => 0))), (q_5, .inl (cI, 40, .inl (fun _ => 0))), (q_6, .inl (cI, 40, .inl (fun _ => 0))), (q_7, .inl (cI, 3, .inl (zL3 5 10 50))), (q_8, .inl (cI, 8, .inl (fun _ => 0))), (q_9, .inl (cI, 8, .inl (fun _ => 0))), (q_10, .inl (cI, 8, .inl (fun _ => 0))), (q_11, .inl (cI, 8, .inl (fun _ => 0))), (q_12, .inl (cJ, 1280, .inr (.inl (fun _ => 0)))), (q_13, .inl (cJ, 160, .inr (.inl (fun _ => 0)))), (q_14, .inl (cI, 64, .inl (upd (upd (upd (upd (upd (upd (upd (upd (upd (upd (upd (upd (upd (upd (upd (upd (upd (upd (upd (upd (upd (upd (upd (upd (upd (upd (upd (upd (upd (upd (upd (upd (upd (upd (upd (upd (upd (upd (upd (upd (upd (upd (upd (upd (upd (upd (upd (upd (upd (upd (upd (upd (upd (upd (upd (upd (upd (upd (upd (upd (upd (upd (upd (upd (fun _ => 0) (0 : Int32).toNatClampNeg 116) (1 : Int32).toNatClampNeg 101) (2 : Int32).toNatClampNeg 101) (3 : Int32).toNatClampNeg 116) (4 : Int32).toNatClampNeg 104) (5 : Int32).toNatClampNeg 32) (6 : Int32).toNatClampNeg 0) (7 : Int32).toNatClampNeg 108) (8 : Int32).toNatClampNeg 97) (9 : Int32).toNatClampNeg 99) (10 : Int32).toNatClampNeg 107) (11 : Int32).toNatClampNeg 32) (12 : Int32).toNatClampNeg 0) (13 : Int32).toNatClampNeg 115) (14 : Int32).toNatClampNeg 108) (15 : Int32).toNatClampNeg 97) (16 : Int32).toNatClampNeg 99) (17 : Int32).toNatClampNeg 107) (18 : Int32).toNatClampNeg 32) (19 : Int32).toNatClampNeg 0) (20 : Int32).toNatClampNeg 112) (21 : Int32).toNatClampNeg 117) (22 : Int32).toNatClampNeg 108) (23 : Int32).toNatClampNeg 108) (24 : Int32).toNatClampNeg 32) (25 : Int32).toNatClampNeg 0) (26 : Int32).toNatClampNeg 100) (27 : Int32).toNatClampNeg 101) (28 : Int32).toNatClampNeg 112) (29 : Int32).toNatClampNeg 116) (30 : Int32).toNatClampNeg 104) (31 : Int32).toNatClampNeg 32) (32 : Int32).toNatClampNeg 0) (33 : Int32).toNatClampNeg 115) (34 : Int32).toNatClampNeg 101) (35 : Int32).toNatClampNeg 99) (36 : Int32).toNatClampNeg 111) (37 : Int32).toNatClampNeg 110) (38 : Int32).toNatClampNeg 100) (39 : Int32).toNatClampNeg 115) (40 : Int32).toNatClampNeg 32) (41 : Int32).toNatClampNeg 0) (42 : Int32).toNatClampNeg 104) (43 : Int32).toNatClampNeg 117) (44 : Int32).toNatClampNeg 114) (45 : Int32).toNatClampNeg 114) (46 : Int32).toNatClampNeg 121) (47 : Int32).toNatClampNeg 32) (48 : Int32).toNatClampNeg 0) (49 : Int32).toNatClampNeg 103) (50 : Int32).toNatClampNeg 97) (51 : Int32).toNatClampNeg 112) (52 : Int32).toNatClampNeg 32) (53 : Int32).toNatClampNeg 0) (54 : Int32).toNatClampNeg 99) (55 : Int32).toNatClampNeg 111) (56 : Int32).toNatClampNeg 115) (57 : Int32).toNatClampNeg 116) (58 : Int32).toNatClampNeg 32) (59 : Int32).toNatClampNeg 0) (60 : Int32).toNatClampNeg 97) (61 : Int32).toNatClampNeg 116) (62 : Int32).toNatClampNeg 32) (63 : Int32).toNatClampNeg 0))), (q_15, .inl (cI, 10, .inl (upd (upd (upd (upd (upd (upd (upd (upd (upd (upd (fun _ => 0) (0 : Int32).toNatClampNeg 1) (1 : Int32).toNatClampNeg 1) (2 : Int32).toNatClampNeg 2) (3 : Int32).toNatClampNeg 3) (4 : Int32).toNatClampNeg 1) (5 : Int32).toNatClampNeg 1) (6 : Int32).toNatClampNeg 1) (7 : Int32).toNatClampNeg 1) (8 : Int32).toNatClampNeg 2) (9 : Int32).toNatClampNeg 1))), (q_16, .inl (cI, 3, .inl (fun _ => 0)))]) hP hD rfl
  clear hP hD
  obtain ⟨hP, hD⟩ := h9R
  refine W.widen (k := 16) (n := 1664) (Nat.le_of_ble_eq_true rfl) (Nat.le_of_ble_eq_true rfl) ?_
  refine va_putF (D := D) (ci := 8) (v := .ref q_16) (ty := (.array .int)) (C := RX8) (T := TX8) (N := 38) hx hb hts hi_X8_init_8 tyX8 tyX8_ok nmX8 hown hK hP hD hS 0 rfl rfl 25 (by decide) (hts (.fieldLink RX8 72 "TheLiningsInItModel" "tell" "[I") (List.mem_of_getElem? (i := 26) rfl)) (fun _ h9 => h9) rfl hin rfl (tyX8_ok 25 (Nat.le_of_ble_eq_true rfl)) rfl rfl (Nat.le_of_ble_eq_true rfl) dX8_init_582 (fun H locs hP hD hS => ?_)
  have h9R := zRe (ws' := [(m0, .inr (8, (.int 0 :: .int 20 :: .int 0 :: .int 0 :: .int 0 :: .int 60 :: .int 0 :: .int 3 :: .int 1 :: .int (-1) :: .ref q_1 :: .ref q_2 :: .ref q_3 :: .ref q_4 :: .ref q_5 :: .ref q_6 :: .ref q_7 :: .ref q_8 :: .ref q_9 :: .ref q_10 :: .ref q_11 :: .ref q_12 :: .ref q_13 :: .ref q_14 :: .ref q_15 :: .ref q_16 :: .int 0 :: .int 0 :: .int 0 :: .int 0 :: .int 0 :: .null :: .null :: .null :: .null :: .null :: .int 0 :: .int 0 :: []))), (q_1, .inl (cI, 8, .inl (fun _ => 0))), (q_2, .inl (cI, 8, .inl (fun _ => 0))), (q_3, .inl (cI, 8, .inl (fun _ => 0))), (q_4, .inl (cI, 8, .inl (fun _ => 0))), (q_5, .inl (cI, 40, .inl (fun _ => 0))), (q_6, .inl (cI, 40, .inl (fun _ => 0))), (q_7, .inl (cI, 3, .inl (zL3 5 10 50))), (q_8, .inl (cI, 8, .inl (fun _ => 0))), (q_9, .inl (cI, 8, .inl (fun _ => 0))), (q_10, .inl (cI, 8, .inl (fun _ => 0))), (q_11, .inl (cI, 8, .inl (fun _ => 0))), (q_12, .inl (cJ, 1280, .inr (.inl (fun _ => 0)))), (q_13, .inl (cJ, 160, .inr (.inl (fun _ => 0)))), (q_14, .inl (cI, 64, .inl (upd (upd (upd (upd (upd (upd (upd (upd (upd (upd (upd (upd (upd (upd (upd (upd (upd (upd (upd (upd (upd (upd (upd (upd (upd (upd (upd (upd (upd (upd (upd (upd (upd (upd (upd (upd (upd (upd (upd (upd (upd (upd (upd (upd (upd (upd (upd (upd (upd (upd (upd (upd (upd (upd (upd (upd (upd (upd (upd (upd (upd (upd (upd (upd (fun _ => 0) (0 : Int32).toNatClampNeg 116) (1 : Int32).toNatClampNeg 101) (2 : Int32).toNatClampNeg 101) (3 : Int32).toNatClampNeg 116) (4 : Int32).toNatClampNeg 104) (5 : Int32).toNatClampNeg 32) (6 : Int32).toNatClampNeg 0) (7 : Int32).toNatClampNeg 108) (8 : Int32).toNatClampNeg 97) (9 : Int32).toNatClampNeg 99) (10 : Int32).toNatClampNeg 107) (11 : Int32).toNatClampNeg 32) (12 : Int32).toNatClampNeg 0) (13 : Int32).toNatClampNeg 115) (14 : Int32).toNatClampNeg 108) (15 : Int32).toNatClampNeg 97) (16 : Int32).toNatClampNeg 99) (17 : Int32).toNatClampNeg 107) (18 : Int32).toNatClampNeg 32) (19 : Int32).toNatClampNeg 0) (20 : Int32).toNatClampNeg 112) (21 : Int32).toNatClampNeg 117) (22 : Int32).toNatClampNeg 108) (23 : Int32).toNatClampNeg 108) (24 : Int32).toNatClampNeg 32) (25 : Int32).toNatClampNeg 0) (26 : Int32).toNatClampNeg 100) (27 : Int32).toNatClampNeg 101) (28 : Int32).toNatClampNeg 112) (29 : Int32).toNatClampNeg 116) (30 : Int32).toNatClampNeg 104) (31 : Int32).toNatClampNeg 32) (32 : Int32).toNatClampNeg 0) (33 : Int32).toNatClampNeg 115) (34 : Int32).toNatClampNeg 101) (35 : Int32).toNatClampNeg 99) (36 : Int32).toNatClampNeg 111) (37 : Int32).toNatClampNeg 110) (38 : Int32).toNatClampNeg 100) (39 : Int32).toNatClampNeg 115) (40 : Int32).toNatClampNeg 32) (41 : Int32).toNatClampNeg 0) (42 : Int32).toNatClampNeg 104) (43 : Int32).toNatClampNeg 117) (44 : Int32).toNatClampNeg 114) (45 : Int32).toNatClampNeg 114) (46 : Int32).toNatClampNeg 121) (47 : Int32).toNatClampNeg 32) (48 : Int32).toNatClampNeg 0) (49 : Int32).toNatClampNeg 103) (50 : Int32).toNatClampNeg 97) (51 : Int32).toNatClampNeg 112) (52 : Int32).toNatClampNeg 32) (53 : Int32).toNatClampNeg 0) (54 : Int32).toNatClampNeg 99) (55 : Int32).toNatClampNeg 111) (56 : Int32).toNatClampNeg 115) (57 : Int32).toNatClampNeg 116) (58 : Int32).toNatClampNeg 32) (59 : Int32).toNatClampNeg 0) (60 : Int32).toNatClampNeg 97) (61 : Int32).toNatClampNeg 116) (62 : Int32).toNatClampNeg 32) (63 : Int32).toNatClampNeg 0))), (q_15, .inl (cI, 10, .inl (upd (upd (upd (upd (upd (upd (upd (upd (upd (upd (fun _ => 0) (0 : Int32).toNatClampNeg 1) (1 : Int32).toNatClampNeg 1) (2 : Int32).toNatClampNeg 2) (3 : Int32).toNatClampNeg 3) (4 : Int32).toNatClampNeg 1) (5 : Int32).toNatClampNeg 1) (6 : Int32).toNatClampNeg 1) (7 : Int32).toNatClampNeg 1) (8 : Int32).toNatClampNeg 2) (9 : Int32).toNatClampNeg 1))), (q_16, .inl (cI, 3, .inl (fun _ => 0)))]) hP hD rfl
  clear hP hD
  obtain ⟨hP, hD⟩ := h9R
  refine lv_aload_n hx hb dX8_init_585 rfl (lv_at hl 0 rfl) ?_
  refine lv_sipush (v := 130) hx hb dX8_init_586 (by decide) ?_
  refine va_newa hx hb (atype := .int) (hts _ (List.mem_of_getElem? (i := 9) rfl)) rfl hK hP hD hS hA (N' := 130) (a0 := (130, .inl (fun _ => 0))) (fun _ => rfl) (by decide) (by decide) (Nat.le_of_ble_eq_true rfl) (Nat.le_of_ble_eq_true rfl) (Nat.le_of_ble_eq_true rfl) dX8_init_589 (fun q_17 cA H hK1 hP hD hS => ?_)
  obtain rfl : cI = cA := zk_eqI (k := 0) hK rfl hK1
  have h9R := zRe (ws' := [(m0, .inr (8, (.int 0 :: .int 20 :: .int 0 :: .int 0 :: .int 0 :: .int 60 :: .int 0 :: .int 3 :: .int 1 :: .int (-1) :: .ref q_1 :: .ref q_2 :: .ref q_3 :: .ref q_4 :: .ref q_5 :: .ref q_6 :: .ref q_7 :: .ref q_8 :: .ref q_9 :: .ref q_10 :: .ref q_11 :: .ref q_12 :: .ref q_13 :: .ref q_14 :: .ref q_15 :: .ref q_16 :: .int 0 :: .int 0 :: .int 0 :: .int 0 :: .int 0 :: .null :: .null :: .null :: .null :: .null :: .int 0 :: .int 0 :: []))), (q_1, .inl (cI, 8, .inl (fun _ => 0))), (q_2, .inl (cI, 8, .inl (fun _ => 0))), (q_3, .inl (cI, 8, .inl (fun _ => 0))), (q_4, .inl (cI, 8, .inl (fun _ => 0))), (q_5, .inl (cI, 40, .inl (fun _ => 0))), (q_6, .inl (cI, 40, .inl (fun _ => 0))), (q_7, .inl (cI, 3, .inl (zL3 5 10 50))), (q_8, .inl (cI, 8, .inl (fun _ => 0))), (q_9, .inl (cI, 8, .inl (fun _ => 0))), (q_10, .inl (cI, 8, .inl (fun _ => 0))), (q_11, .inl (cI, 8, .inl (fun _ => 0))), (q_12, .inl (cJ, 1280, .inr (.inl (fun _ => 0)))), (q_13, .inl (cJ, 160, .inr (.inl (fun _ => 0)))), (q_14, .inl (cI, 64, .inl (upd (upd (upd (upd (upd (upd (upd (upd (upd (upd (upd (upd (upd (upd (upd (upd (upd (upd (upd (upd (upd (upd (upd (upd (upd (upd (upd (upd (upd (upd (upd (upd (upd (upd (upd (upd (upd (upd (upd (upd (upd (upd (upd (upd (upd (upd (upd (upd (upd (upd (upd (upd (upd (upd (upd (upd (upd (upd (upd (upd (upd (upd (upd (upd (fun _ => 0) (0 : Int32).toNatClampNeg 116) (1 : Int32).toNatClampNeg 101) (2 : Int32).toNatClampNeg 101) (3 : Int32).toNatClampNeg 116) (4 : Int32).toNatClampNeg 104) (5 : Int32).toNatClampNeg 32) (6 : Int32).toNatClampNeg 0) (7 : Int32).toNatClampNeg 108) (8 : Int32).toNatClampNeg 97) (9 : Int32).toNatClampNeg 99) (10 : Int32).toNatClampNeg 107) (11 : Int32).toNatClampNeg 32) (12 : Int32).toNatClampNeg 0) (13 : Int32).toNatClampNeg 115) (14 : Int32).toNatClampNeg 108) (15 : Int32).toNatClampNeg 97) (16 : Int32).toNatClampNeg 99) (17 : Int32).toNatClampNeg 107) (18 : Int32).toNatClampNeg 32) (19 : Int32).toNatClampNeg 0) (20 : Int32).toNatClampNeg 112) (21 : Int32).toNatClampNeg 117) (22 : Int32).toNatClampNeg 108) (23 : Int32).toNatClampNeg 108) (24 : Int32).toNatClampNeg 32) (25 : Int32).toNatClampNeg 0) (26 : Int32).toNatClampNeg 100) (27 : Int32).toNatClampNeg 101) (28 : Int32).toNatClampNeg 112) (29 : Int32).toNatClampNeg 116) (30 : Int32).toNatClampNeg 104) (31 : Int32).toNatClampNeg 32) (32 : Int32).toNatClampNeg 0) (33 : Int32).toNatClampNeg 115) (34 : Int32).toNatClampNeg 101) (35 : Int32).toNatClampNeg 99) (36 : Int32).toNatClampNeg 111) (37 : Int32).toNatClampNeg 110) (38 : Int32).toNatClampNeg 100) (39 : Int32).toNatClampNeg 115) (40 : Int32).toNatClampNeg 32) (41 : Int32).toNatClampNeg 0) (42 : Int32).toNatClampNeg 104) (43 : Int32).toNatClampNeg 117) (44 : Int32).toNatClampNeg 114) (45 : Int32).toNatClampNeg 114) (46 : Int32).toNatClampNeg 121) (47 : Int32).toNatClampNeg 32) (48 : Int32).toNatClampNeg 0) (49 : Int32).toNatClampNeg 103) (50 : Int32).toNatClampNeg 97) (51 : Int32).toNatClampNeg 112) (52 : Int32).toNatClampNeg 32) (53 : Int32).toNatClampNeg 0) (54 : Int32).toNatClampNeg 99) (55 : Int32).toNatClampNeg 111) (56 : Int32).toNatClampNeg 115) (57 : Int32).toNatClampNeg 116) (58 : Int32).toNatClampNeg 32) (59 : Int32).toNatClampNeg 0) (60 : Int32).toNatClampNeg 97) (61 : Int32).toNatClampNeg 116) (62 : Int32).toNatClampNeg 32) (63 : Int32).toNatClampNeg 0))), (q_15, .inl (cI, 10, .inl (upd (upd (upd (upd (upd (upd (upd (upd (upd (upd (fun _ => 0) (0 : Int32).toNatClampNeg 1) (1 : Int32).toNatClampNeg 1) (2 : Int32).toNatClampNeg 2) (3 : Int32).toNatClampNeg 3) (4 : Int32).toNatClampNeg 1) (5 : Int32).toNatClampNeg 1) (6 : Int32).toNatClampNeg 1) (7 : Int32).toNatClampNeg 1) (8 : Int32).toNatClampNeg 2) (9 : Int32).toNatClampNeg 1))), (q_16, .inl (cI, 3, .inl (fun _ => 0))), (q_17, .inl (cI, 130, .inl (fun _ => 0)))]) hP hD rfl
  clear hP hD
  obtain ⟨hP, hD⟩ := h9R
  refine W.widen (k := 17) (n := 1794) (Nat.le_of_ble_eq_true rfl) (Nat.le_of_ble_eq_true rfl) ?_
  refine va_putF (D := D) (ci := 8) (v := .ref q_17) (ty := (.array .int)) (C := RX8) (T := TX8) (N := 38) hx hb hts hi_X8_init_8 tyX8 tyX8_ok nmX8 hown hK hP hD hS 0 rfl rfl 31 (by decide) (hts (.fieldLink RX8 75 "TheLiningsInItModel" "was" "[I") (List.mem_of_getElem? (i := 27) rfl)) (fun _ h9 => h9) rfl hin rfl (tyX8_ok 31 (Nat.le_of_ble_eq_true rfl)) rfl rfl (Nat.le_of_ble_eq_true rfl) dX8_init_591 (fun H locs hP hD hS => ?_)
  have h9R := zRe (ws' := [(m0, .inr (8, (.int 0 :: .int 20 :: .int 0 :: .int 0 :: .int 0 :: .int 60 :: .int 0 :: .int 3 :: .int 1 :: .int (-1) :: .ref q_1 :: .ref q_2 :: .ref q_3 :: .ref q_4 :: .ref q_5 :: .ref q_6 :: .ref q_7 :: .ref q_8 :: .ref q_9 :: .ref q_10 :: .ref q_11 :: .ref q_12 :: .ref q_13 :: .ref q_14 :: .ref q_15 :: .ref q_16 :: .int 0 :: .int 0 :: .int 0 :: .int 0 :: .int 0 :: .ref q_17 :: .null :: .null :: .null :: .null :: .int 0 :: .int 0 :: []))), (q_1, .inl (cI, 8, .inl (fun _ => 0))), (q_2, .inl (cI, 8, .inl (fun _ => 0))), (q_3, .inl (cI, 8, .inl (fun _ => 0))), (q_4, .inl (cI, 8, .inl (fun _ => 0))), (q_5, .inl (cI, 40, .inl (fun _ => 0))), (q_6, .inl (cI, 40, .inl (fun _ => 0))), (q_7, .inl (cI, 3, .inl (zL3 5 10 50))), (q_8, .inl (cI, 8, .inl (fun _ => 0))), (q_9, .inl (cI, 8, .inl (fun _ => 0))), (q_10, .inl (cI, 8, .inl (fun _ => 0))), (q_11, .inl (cI, 8, .inl (fun _ => 0))), (q_12, .inl (cJ, 1280, .inr (.inl (fun _ => 0)))), (q_13, .inl (cJ, 160, .inr (.inl (fun _ => 0)))), (q_14, .inl (cI, 64, .inl (upd (upd (upd (upd (upd (upd (upd (upd (upd (upd (upd (upd (upd (upd (upd (upd (upd (upd (upd (upd (upd (upd (upd (upd (upd (upd (upd (upd (upd (upd (upd (upd (upd (upd (upd (upd (upd (upd (upd (upd (upd (upd (upd (upd (upd (upd (upd (upd (upd (upd (upd (upd (upd (upd (upd (upd (upd (upd (upd (upd (upd (upd (upd (upd (fun _ => 0) (0 : Int32).toNatClampNeg 116) (1 : Int32).toNatClampNeg 101) (2 : Int32).toNatClampNeg 101) (3 : Int32).toNatClampNeg 116) (4 : Int32).toNatClampNeg 104) (5 : Int32).toNatClampNeg 32) (6 : Int32).toNatClampNeg 0) (7 : Int32).toNatClampNeg 108) (8 : Int32).toNatClampNeg 97) (9 : Int32).toNatClampNeg 99) (10 : Int32).toNatClampNeg 107) (11 : Int32).toNatClampNeg 32) (12 : Int32).toNatClampNeg 0) (13 : Int32).toNatClampNeg 115) (14 : Int32).toNatClampNeg 108) (15 : Int32).toNatClampNeg 97) (16 : Int32).toNatClampNeg 99) (17 : Int32).toNatClampNeg 107) (18 : Int32).toNatClampNeg 32) (19 : Int32).toNatClampNeg 0) (20 : Int32).toNatClampNeg 112) (21 : Int32).toNatClampNeg 117) (22 : Int32).toNatClampNeg 108) (23 : Int32).toNatClampNeg 108) (24 : Int32).toNatClampNeg 32) (25 : Int32).toNatClampNeg 0) (26 : Int32).toNatClampNeg 100) (27 : Int32).toNatClampNeg 101) (28 : Int32).toNatClampNeg 112) (29 : Int32).toNatClampNeg 116) (30 : Int32).toNatClampNeg 104) (31 : Int32).toNatClampNeg 32) (32 : Int32).toNatClampNeg 0) (33 : Int32).toNatClampNeg 115) (34 : Int32).toNatClampNeg 101) (35 : Int32).toNatClampNeg 99) (36 : Int32).toNatClampNeg 111) (37 : Int32).toNatClampNeg 110) (38 : Int32).toNatClampNeg 100) (39 : Int32).toNatClampNeg 115) (40 : Int32).toNatClampNeg 32) (41 : Int32).toNatClampNeg 0) (42 : Int32).toNatClampNeg 104) (43 : Int32).toNatClampNeg 117) (44 : Int32).toNatClampNeg 114) (45 : Int32).toNatClampNeg 114) (46 : Int32).toNatClampNeg 121) (47 : Int32).toNatClampNeg 32) (48 : Int32).toNatClampNeg 0) (49 : Int32).toNatClampNeg 103) (50 : Int32).toNatClampNeg 97) (51 : Int32).toNatClampNeg 112) (52 : Int32).toNatClampNeg 32) (53 : Int32).toNatClampNeg 0) (54 : Int32).toNatClampNeg 99) (55 : Int32).toNatClampNeg 111) (56 : Int32).toNatClampNeg 115) (57 : Int32).toNatClampNeg 116) (58 : Int32).toNatClampNeg 32) (59 : Int32).toNatClampNeg 0) (60 : Int32).toNatClampNeg 97) (61 : Int32).toNatClampNeg 116) (62 : Int32).toNatClampNeg 32) (63 : Int32).toNatClampNeg 0))), (q_15, .inl (cI, 10, .inl (upd (upd (upd (upd (upd (upd (upd (upd (upd (upd (fun _ => 0) (0 : Int32).toNatClampNeg 1) (1 : Int32).toNatClampNeg 1) (2 : Int32).toNatClampNeg 2) (3 : Int32).toNatClampNeg 3) (4 : Int32).toNatClampNeg 1) (5 : Int32).toNatClampNeg 1) (6 : Int32).toNatClampNeg 1) (7 : Int32).toNatClampNeg 1) (8 : Int32).toNatClampNeg 2) (9 : Int32).toNatClampNeg 1))), (q_16, .inl (cI, 3, .inl (fun _ => 0))), (q_17, .inl (cI, 130, .inl (fun _ => 0)))]) hP hD rfl
  clear hP hD
  obtain ⟨hP, hD⟩ := h9R
  refine lv_aload_n hx hb dX8_init_594 rfl (lv_at hl 0 rfl) ?_
  refine lv_sipush (v := 130) hx hb dX8_init_595 (by decide) ?_
  refine va_newa hx hb (atype := .int) (hts _ (List.mem_of_getElem? (i := 9) rfl)) rfl hK hP hD hS hA (N' := 130) (a0 := (130, .inl (fun _ => 0))) (fun _ => rfl) (by decide) (by decide) (Nat.le_of_ble_eq_true rfl) (Nat.le_of_ble_eq_true rfl) (Nat.le_of_ble_eq_true rfl) dX8_init_598 (fun q_18 cA H hK1 hP hD hS => ?_)
  obtain rfl : cI = cA := zk_eqI (k := 0) hK rfl hK1
  have h9R := zRe (ws' := [(m0, .inr (8, (.int 0 :: .int 20 :: .int 0 :: .int 0 :: .int 0 :: .int 60 :: .int 0 :: .int 3 :: .int 1 :: .int (-1) :: .ref q_1 :: .ref q_2 :: .ref q_3 :: .ref q_4 :: .ref q_5 :: .ref q_6 :: .ref q_7 :: .ref q_8 :: .ref q_9 :: .ref q_10 :: .ref q_11 :: .ref q_12 :: .ref q_13 :: .ref q_14 :: .ref q_15 :: .ref q_16 :: .int 0 :: .int 0 :: .int 0 :: .int 0 :: .int 0 :: .ref q_17 :: .null :: .null :: .null :: .null :: .int 0 :: .int 0 :: []))), (q_1, .inl (cI, 8, .inl (fun _ => 0))), (q_2, .inl (cI, 8, .inl (fun _ => 0))), (q_3, .inl (cI, 8, .inl (fun _ => 0))), (q_4, .inl (cI, 8, .inl (fun _ => 0))), (q_5, .inl (cI, 40, .inl (fun _ => 0))), (q_6, .inl (cI, 40, .inl (fun _ => 0))), (q_7, .inl (cI, 3, .inl (zL3 5 10 50))), (q_8, .inl (cI, 8, .inl (fun _ => 0))), (q_9, .inl (cI, 8, .inl (fun _ => 0))), (q_10, .inl (cI, 8, .inl (fun _ => 0))), (q_11, .inl (cI, 8, .inl (fun _ => 0))), (q_12, .inl (cJ, 1280, .inr (.inl (fun _ => 0)))), (q_13, .inl (cJ, 160, .inr (.inl (fun _ => 0)))), (q_14, .inl (cI, 64, .inl (upd (upd (upd (upd (upd (upd (upd (upd (upd (upd (upd (upd (upd (upd (upd (upd (upd (upd (upd (upd (upd (upd (upd (upd (upd (upd (upd (upd (upd (upd (upd (upd (upd (upd (upd (upd (upd (upd (upd (upd (upd (upd (upd (upd (upd (upd (upd (upd (upd (upd (upd (upd (upd (upd (upd (upd (upd (upd (upd (upd (upd (upd (upd (upd (fun _ => 0) (0 : Int32).toNatClampNeg 116) (1 : Int32).toNatClampNeg 101) (2 : Int32).toNatClampNeg 101) (3 : Int32).toNatClampNeg 116) (4 : Int32).toNatClampNeg 104) (5 : Int32).toNatClampNeg 32) (6 : Int32).toNatClampNeg 0) (7 : Int32).toNatClampNeg 108) (8 : Int32).toNatClampNeg 97) (9 : Int32).toNatClampNeg 99) (10 : Int32).toNatClampNeg 107) (11 : Int32).toNatClampNeg 32) (12 : Int32).toNatClampNeg 0) (13 : Int32).toNatClampNeg 115) (14 : Int32).toNatClampNeg 108) (15 : Int32).toNatClampNeg 97) (16 : Int32).toNatClampNeg 99) (17 : Int32).toNatClampNeg 107) (18 : Int32).toNatClampNeg 32) (19 : Int32).toNatClampNeg 0) (20 : Int32).toNatClampNeg 112) (21 : Int32).toNatClampNeg 117) (22 : Int32).toNatClampNeg 108) (23 : Int32).toNatClampNeg 108) (24 : Int32).toNatClampNeg 32) (25 : Int32).toNatClampNeg 0) (26 : Int32).toNatClampNeg 100) (27 : Int32).toNatClampNeg 101) (28 : Int32).toNatClampNeg 112) (29 : Int32).toNatClampNeg 116) (30 : Int32).toNatClampNeg 104) (31 : Int32).toNatClampNeg 32) (32 : Int32).toNatClampNeg 0) (33 : Int32).toNatClampNeg 115) (34 : Int32).toNatClampNeg 101) (35 : Int32).toNatClampNeg 99) (36 : Int32).toNatClampNeg 111) (37 : Int32).toNatClampNeg 110) (38 : Int32).toNatClampNeg 100) (39 : Int32).toNatClampNeg 115) (40 : Int32).toNatClampNeg 32) (41 : Int32).toNatClampNeg 0) (42 : Int32).toNatClampNeg 104) (43 : Int32).toNatClampNeg 117) (44 : Int32).toNatClampNeg 114) (45 : Int32).toNatClampNeg 114) (46 : Int32).toNatClampNeg 121) (47 : Int32).toNatClampNeg 32) (48 : Int32).toNatClampNeg 0) (49 : Int32).toNatClampNeg 103) (50 : Int32).toNatClampNeg 97) (51 : Int32).toNatClampNeg 112) (52 : Int32).toNatClampNeg 32) (53 : Int32).toNatClampNeg 0) (54 : Int32).toNatClampNeg 99) (55 : Int32).toNatClampNeg 111) (56 : Int32).toNatClampNeg 115) (57 : Int32).toNatClampNeg 116) (58 : Int32).toNatClampNeg 32) (59 : Int32).toNatClampNeg 0) (60 : Int32).toNatClampNeg 97) (61 : Int32).toNatClampNeg 116) (62 : Int32).toNatClampNeg 32) (63 : Int32).toNatClampNeg 0))), (q_15, .inl (cI, 10, .inl (upd (upd (upd (upd (upd (upd (upd (upd (upd (upd (fun _ => 0) (0 : Int32).toNatClampNeg 1) (1 : Int32).toNatClampNeg 1) (2 : Int32).toNatClampNeg 2) (3 : Int32).toNatClampNeg 3) (4 : Int32).toNatClampNeg 1) (5 : Int32).toNatClampNeg 1) (6 : Int32).toNatClampNeg 1) (7 : Int32).toNatClampNeg 1) (8 : Int32).toNatClampNeg 2) (9 : Int32).toNatClampNeg 1))), (q_16, .inl (cI, 3, .inl (fun _ => 0))), (q_17, .inl (cI, 130, .inl (fun _ => 0))), (q_18, .inl (cI, 130, .inl (fun _ => 0)))]) hP hD rfl
  clear hP hD
  obtain ⟨hP, hD⟩ := h9R
  refine W.widen (k := 18) (n := 1924) (Nat.le_of_ble_eq_true rfl) (Nat.le_of_ble_eq_true rfl) ?_
  refine va_putF (D := D) (ci := 8) (v := .ref q_18) (ty := (.array .int)) (C := RX8) (T := TX8) (N := 38) hx hb hts hi_X8_init_8 tyX8 tyX8_ok nmX8 hown hK hP hD hS 0 rfl rfl 32 (by decide) (hts (.fieldLink RX8 78 "TheLiningsInItModel" "kept" "[I") (List.mem_of_getElem? (i := 28) rfl)) (fun _ h9 => h9) rfl hin rfl (tyX8_ok 32 (Nat.le_of_ble_eq_true rfl)) rfl rfl (Nat.le_of_ble_eq_true rfl) dX8_init_600 (fun H locs hP hD hS => ?_)
  have h9R := zRe (ws' := [(m0, .inr (8, (.int 0 :: .int 20 :: .int 0 :: .int 0 :: .int 0 :: .int 60 :: .int 0 :: .int 3 :: .int 1 :: .int (-1) :: .ref q_1 :: .ref q_2 :: .ref q_3 :: .ref q_4 :: .ref q_5 :: .ref q_6 :: .ref q_7 :: .ref q_8 :: .ref q_9 :: .ref q_10 :: .ref q_11 :: .ref q_12 :: .ref q_13 :: .ref q_14 :: .ref q_15 :: .ref q_16 :: .int 0 :: .int 0 :: .int 0 :: .int 0 :: .int 0 :: .ref q_17 :: .ref q_18 :: .null :: .null :: .null :: .int 0 :: .int 0 :: []))), (q_1, .inl (cI, 8, .inl (fun _ => 0))), (q_2, .inl (cI, 8, .inl (fun _ => 0))), (q_3, .inl (cI, 8, .inl (fun _ => 0))), (q_4, .inl (cI, 8, .inl (fun _ => 0))), (q_5, .inl (cI, 40, .inl (fun _ => 0))), (q_6, .inl (cI, 40, .inl (fun _ => 0))), (q_7, .inl (cI, 3, .inl (zL3 5 10 50))), (q_8, .inl (cI, 8, .inl (fun _ => 0))), (q_9, .inl (cI, 8, .inl (fun _ => 0))), (q_10, .inl (cI, 8, .inl (fun _ => 0))), (q_11, .inl (cI, 8, .inl (fun _ => 0))), (q_12, .inl (cJ, 1280, .inr (.inl (fun _ => 0)))), (q_13, .inl (cJ, 160, .inr (.inl (fun _ => 0)))), (q_14, .inl (cI, 64, .inl (upd (upd (upd (upd (upd (upd (upd (upd (upd (upd (upd (upd (upd (upd (upd (upd (upd (upd (upd (upd (upd (upd (upd (upd (upd (upd (upd (upd (upd (upd (upd (upd (upd (upd (upd (upd (upd (upd (upd (upd (upd (upd (upd (upd (upd (upd (upd (upd (upd (upd (upd (upd (upd (upd (upd (upd (upd (upd (upd (upd (upd (upd (upd (upd (fun _ => 0) (0 : Int32).toNatClampNeg 116) (1 : Int32).toNatClampNeg 101) (2 : Int32).toNatClampNeg 101) (3 : Int32).toNatClampNeg 116) (4 : Int32).toNatClampNeg 104) (5 : Int32).toNatClampNeg 32) (6 : Int32).toNatClampNeg 0) (7 : Int32).toNatClampNeg 108) (8 : Int32).toNatClampNeg 97) (9 : Int32).toNatClampNeg 99) (10 : Int32).toNatClampNeg 107) (11 : Int32).toNatClampNeg 32) (12 : Int32).toNatClampNeg 0) (13 : Int32).toNatClampNeg 115) (14 : Int32).toNatClampNeg 108) (15 : Int32).toNatClampNeg 97) (16 : Int32).toNatClampNeg 99) (17 : Int32).toNatClampNeg 107) (18 : Int32).toNatClampNeg 32) (19 : Int32).toNatClampNeg 0) (20 : Int32).toNatClampNeg 112) (21 : Int32).toNatClampNeg 117) (22 : Int32).toNatClampNeg 108) (23 : Int32).toNatClampNeg 108) (24 : Int32).toNatClampNeg 32) (25 : Int32).toNatClampNeg 0) (26 : Int32).toNatClampNeg 100) (27 : Int32).toNatClampNeg 101) (28 : Int32).toNatClampNeg 112) (29 : Int32).toNatClampNeg 116) (30 : Int32).toNatClampNeg 104) (31 : Int32).toNatClampNeg 32) (32 : Int32).toNatClampNeg 0) (33 : Int32).toNatClampNeg 115) (34 : Int32).toNatClampNeg 101) (35 : Int32).toNatClampNeg 99) (36 : Int32).toNatClampNeg 111) (37 : Int32).toNatClampNeg 110) (38 : Int32).toNatClampNeg 100) (39 : Int32).toNatClampNeg 115) (40 : Int32).toNatClampNeg 32) (41 : Int32).toNatClampNeg 0) (42 : Int32).toNatClampNeg 104) (43 : Int32).toNatClampNeg 117) (44 : Int32).toNatClampNeg 114) (45 : Int32).toNatClampNeg 114) (46 : Int32).toNatClampNeg 121) (47 : Int32).toNatClampNeg 32) (48 : Int32).toNatClampNeg 0) (49 : Int32).toNatClampNeg 103) (50 : Int32).toNatClampNeg 97) (51 : Int32).toNatClampNeg 112) (52 : Int32).toNatClampNeg 32) (53 : Int32).toNatClampNeg 0) (54 : Int32).toNatClampNeg 99) (55 : Int32).toNatClampNeg 111) (56 : Int32).toNatClampNeg 115) (57 : Int32).toNatClampNeg 116) (58 : Int32).toNatClampNeg 32) (59 : Int32).toNatClampNeg 0) (60 : Int32).toNatClampNeg 97) (61 : Int32).toNatClampNeg 116) (62 : Int32).toNatClampNeg 32) (63 : Int32).toNatClampNeg 0))), (q_15, .inl (cI, 10, .inl (upd (upd (upd (upd (upd (upd (upd (upd (upd (upd (fun _ => 0) (0 : Int32).toNatClampNeg 1) (1 : Int32).toNatClampNeg 1) (2 : Int32).toNatClampNeg 2) (3 : Int32).toNatClampNeg 3) (4 : Int32).toNatClampNeg 1) (5 : Int32).toNatClampNeg 1) (6 : Int32).toNatClampNeg 1) (7 : Int32).toNatClampNeg 1) (8 : Int32).toNatClampNeg 2) (9 : Int32).toNatClampNeg 1))), (q_16, .inl (cI, 3, .inl (fun _ => 0))), (q_17, .inl (cI, 130, .inl (fun _ => 0))), (q_18, .inl (cI, 130, .inl (fun _ => 0)))]) hP hD rfl
  clear hP hD
  obtain ⟨hP, hD⟩ := h9R
  refine lv_aload_n hx hb dX8_init_603 rfl (lv_at hl 0 rfl) ?_
  refine lv_iconst (v := 3) hx hb dX8_init_604 (by decide) ?_
  refine va_newa hx hb (atype := .int) (hts _ (List.mem_of_getElem? (i := 9) rfl)) rfl hK hP hD hS hA (N' := 3) (a0 := (3, .inl (fun _ => 0))) (fun _ => rfl) (by decide) (by decide) (Nat.le_of_ble_eq_true rfl) (Nat.le_of_ble_eq_true rfl) (Nat.le_of_ble_eq_true rfl) dX8_init_605 (fun q_19 cA H hK1 hP hD hS => ?_)
  obtain rfl : cI = cA := zk_eqI (k := 0) hK rfl hK1
  have h9R := zRe (ws' := [(m0, .inr (8, (.int 0 :: .int 20 :: .int 0 :: .int 0 :: .int 0 :: .int 60 :: .int 0 :: .int 3 :: .int 1 :: .int (-1) :: .ref q_1 :: .ref q_2 :: .ref q_3 :: .ref q_4 :: .ref q_5 :: .ref q_6 :: .ref q_7 :: .ref q_8 :: .ref q_9 :: .ref q_10 :: .ref q_11 :: .ref q_12 :: .ref q_13 :: .ref q_14 :: .ref q_15 :: .ref q_16 :: .int 0 :: .int 0 :: .int 0 :: .int 0 :: .int 0 :: .ref q_17 :: .ref q_18 :: .null :: .null :: .null :: .int 0 :: .int 0 :: []))), (q_1, .inl (cI, 8, .inl (fun _ => 0))), (q_2, .inl (cI, 8, .inl (fun _ => 0))), (q_3, .inl (cI, 8, .inl (fun _ => 0))), (q_4, .inl (cI, 8, .inl (fun _ => 0))), (q_5, .inl (cI, 40, .inl (fun _ => 0))), (q_6, .inl (cI, 40, .inl (fun _ => 0))), (q_7, .inl (cI, 3, .inl (zL3 5 10 50))), (q_8, .inl (cI, 8, .inl (fun _ => 0))), (q_9, .inl (cI, 8, .inl (fun _ => 0))), (q_10, .inl (cI, 8, .inl (fun _ => 0))), (q_11, .inl (cI, 8, .inl (fun _ => 0))), (q_12, .inl (cJ, 1280, .inr (.inl (fun _ => 0)))), (q_13, .inl (cJ, 160, .inr (.inl (fun _ => 0)))), (q_14, .inl (cI, 64, .inl (upd (upd (upd (upd (upd (upd (upd (upd (upd (upd (upd (upd (upd (upd (upd (upd (upd (upd (upd (upd (upd (upd (upd (upd (upd (upd (upd (upd (upd (upd (upd (upd (upd (upd (upd (upd (upd (upd (upd (upd (upd (upd (upd (upd (upd (upd (upd (upd (upd (upd (upd (upd (upd (upd (upd (upd (upd (upd (upd (upd (upd (upd (upd (upd (fun _ => 0) (0 : Int32).toNatClampNeg 116) (1 : Int32).toNatClampNeg 101) (2 : Int32).toNatClampNeg 101) (3 : Int32).toNatClampNeg 116) (4 : Int32).toNatClampNeg 104) (5 : Int32).toNatClampNeg 32) (6 : Int32).toNatClampNeg 0) (7 : Int32).toNatClampNeg 108) (8 : Int32).toNatClampNeg 97) (9 : Int32).toNatClampNeg 99) (10 : Int32).toNatClampNeg 107) (11 : Int32).toNatClampNeg 32) (12 : Int32).toNatClampNeg 0) (13 : Int32).toNatClampNeg 115) (14 : Int32).toNatClampNeg 108) (15 : Int32).toNatClampNeg 97) (16 : Int32).toNatClampNeg 99) (17 : Int32).toNatClampNeg 107) (18 : Int32).toNatClampNeg 32) (19 : Int32).toNatClampNeg 0) (20 : Int32).toNatClampNeg 112) (21 : Int32).toNatClampNeg 117) (22 : Int32).toNatClampNeg 108) (23 : Int32).toNatClampNeg 108) (24 : Int32).toNatClampNeg 32) (25 : Int32).toNatClampNeg 0) (26 : Int32).toNatClampNeg 100) (27 : Int32).toNatClampNeg 101) (28 : Int32).toNatClampNeg 112) (29 : Int32).toNatClampNeg 116) (30 : Int32).toNatClampNeg 104) (31 : Int32).toNatClampNeg 32) (32 : Int32).toNatClampNeg 0) (33 : Int32).toNatClampNeg 115) (34 : Int32).toNatClampNeg 101) (35 : Int32).toNatClampNeg 99) (36 : Int32).toNatClampNeg 111) (37 : Int32).toNatClampNeg 110) (38 : Int32).toNatClampNeg 100) (39 : Int32).toNatClampNeg 115) (40 : Int32).toNatClampNeg 32) (41 : Int32).toNatClampNeg 0) (42 : Int32).toNatClampNeg 104) (43 : Int32).toNatClampNeg 117) (44 : Int32).toNatClampNeg 114) (45 : Int32).toNatClampNeg 114) (46 : Int32).toNatClampNeg 121) (47 : Int32).toNatClampNeg 32) (48 : Int32).toNatClampNeg 0) (49 : Int32).toNatClampNeg 103) (50 : Int32).toNatClampNeg 97) (51 : Int32).toNatClampNeg 112) (52 : Int32).toNatClampNeg 32) (53 : Int32).toNatClampNeg 0) (54 : Int32).toNatClampNeg 99) (55 : Int32).toNatClampNeg 111) (56 : Int32).toNatClampNeg 115) (57 : Int32).toNatClampNeg 116) (58 : Int32).toNatClampNeg 32) (59 : Int32).toNatClampNeg 0) (60 : Int32).toNatClampNeg 97) (61 : Int32).toNatClampNeg 116) (62 : Int32).toNatClampNeg 32) (63 : Int32).toNatClampNeg 0))), (q_15, .inl (cI, 10, .inl (upd (upd (upd (upd (upd (upd (upd (upd (upd (upd (fun _ => 0) (0 : Int32).toNatClampNeg 1) (1 : Int32).toNatClampNeg 1) (2 : Int32).toNatClampNeg 2) (3 : Int32).toNatClampNeg 3) (4 : Int32).toNatClampNeg 1) (5 : Int32).toNatClampNeg 1) (6 : Int32).toNatClampNeg 1) (7 : Int32).toNatClampNeg 1) (8 : Int32).toNatClampNeg 2) (9 : Int32).toNatClampNeg 1))), (q_16, .inl (cI, 3, .inl (fun _ => 0))), (q_17, .inl (cI, 130, .inl (fun _ => 0))), (q_18, .inl (cI, 130, .inl (fun _ => 0))), (q_19, .inl (cI, 3, .inl (fun _ => 0)))]) hP hD rfl
  clear hP hD
  obtain ⟨hP, hD⟩ := h9R
  refine W.widen (k := 19) (n := 1927) (Nat.le_of_ble_eq_true rfl) (Nat.le_of_ble_eq_true rfl) ?_
  refine va_putF (D := D) (ci := 8) (v := .ref q_19) (ty := (.array .int)) (C := RX8) (T := TX8) (N := 38) hx hb hts hi_X8_init_8 tyX8 tyX8_ok nmX8 hown hK hP hD hS 0 rfl rfl 33 (by decide) (hts (.fieldLink RX8 81 "TheLiningsInItModel" "may" "[I") (List.mem_of_getElem? (i := 29) rfl)) (fun _ h9 => h9) rfl hin rfl (tyX8_ok 33 (Nat.le_of_ble_eq_true rfl)) rfl rfl (Nat.le_of_ble_eq_true rfl) dX8_init_607 (fun H locs hP hD hS => ?_)
  have h9R := zRe (ws' := [(m0, .inr (8, (.int 0 :: .int 20 :: .int 0 :: .int 0 :: .int 0 :: .int 60 :: .int 0 :: .int 3 :: .int 1 :: .int (-1) :: .ref q_1 :: .ref q_2 :: .ref q_3 :: .ref q_4 :: .ref q_5 :: .ref q_6 :: .ref q_7 :: .ref q_8 :: .ref q_9 :: .ref q_10 :: .ref q_11 :: .ref q_12 :: .ref q_13 :: .ref q_14 :: .ref q_15 :: .ref q_16 :: .int 0 :: .int 0 :: .int 0 :: .int 0 :: .int 0 :: .ref q_17 :: .ref q_18 :: .ref q_19 :: .null :: .null :: .int 0 :: .int 0 :: []))), (q_1, .inl (cI, 8, .inl (fun _ => 0))), (q_2, .inl (cI, 8, .inl (fun _ => 0))), (q_3, .inl (cI, 8, .inl (fun _ => 0))), (q_4, .inl (cI, 8, .inl (fun _ => 0))), (q_5, .inl (cI, 40, .inl (fun _ => 0))), (q_6, .inl (cI, 40, .inl (fun _ => 0))), (q_7, .inl (cI, 3, .inl (zL3 5 10 50))), (q_8, .inl (cI, 8, .inl (fun _ => 0))), (q_9, .inl (cI, 8, .inl (fun _ => 0))), (q_10, .inl (cI, 8, .inl (fun _ => 0))), (q_11, .inl (cI, 8, .inl (fun _ => 0))), (q_12, .inl (cJ, 1280, .inr (.inl (fun _ => 0)))), (q_13, .inl (cJ, 160, .inr (.inl (fun _ => 0)))), (q_14, .inl (cI, 64, .inl (upd (upd (upd (upd (upd (upd (upd (upd (upd (upd (upd (upd (upd (upd (upd (upd (upd (upd (upd (upd (upd (upd (upd (upd (upd (upd (upd (upd (upd (upd (upd (upd (upd (upd (upd (upd (upd (upd (upd (upd (upd (upd (upd (upd (upd (upd (upd (upd (upd (upd (upd (upd (upd (upd (upd (upd (upd (upd (upd (upd (upd (upd (upd (upd (fun _ => 0) (0 : Int32).toNatClampNeg 116) (1 : Int32).toNatClampNeg 101) (2 : Int32).toNatClampNeg 101) (3 : Int32).toNatClampNeg 116) (4 : Int32).toNatClampNeg 104) (5 : Int32).toNatClampNeg 32) (6 : Int32).toNatClampNeg 0) (7 : Int32).toNatClampNeg 108) (8 : Int32).toNatClampNeg 97) (9 : Int32).toNatClampNeg 99) (10 : Int32).toNatClampNeg 107) (11 : Int32).toNatClampNeg 32) (12 : Int32).toNatClampNeg 0) (13 : Int32).toNatClampNeg 115) (14 : Int32).toNatClampNeg 108) (15 : Int32).toNatClampNeg 97) (16 : Int32).toNatClampNeg 99) (17 : Int32).toNatClampNeg 107) (18 : Int32).toNatClampNeg 32) (19 : Int32).toNatClampNeg 0) (20 : Int32).toNatClampNeg 112) (21 : Int32).toNatClampNeg 117) (22 : Int32).toNatClampNeg 108) (23 : Int32).toNatClampNeg 108) (24 : Int32).toNatClampNeg 32) (25 : Int32).toNatClampNeg 0) (26 : Int32).toNatClampNeg 100) (27 : Int32).toNatClampNeg 101) (28 : Int32).toNatClampNeg 112) (29 : Int32).toNatClampNeg 116) (30 : Int32).toNatClampNeg 104) (31 : Int32).toNatClampNeg 32) (32 : Int32).toNatClampNeg 0) (33 : Int32).toNatClampNeg 115) (34 : Int32).toNatClampNeg 101) (35 : Int32).toNatClampNeg 99) (36 : Int32).toNatClampNeg 111) (37 : Int32).toNatClampNeg 110) (38 : Int32).toNatClampNeg 100) (39 : Int32).toNatClampNeg 115) (40 : Int32).toNatClampNeg 32) (41 : Int32).toNatClampNeg 0) (42 : Int32).toNatClampNeg 104) (43 : Int32).toNatClampNeg 117) (44 : Int32).toNatClampNeg 114) (45 : Int32).toNatClampNeg 114) (46 : Int32).toNatClampNeg 121) (47 : Int32).toNatClampNeg 32) (48 : Int32).toNatClampNeg 0) (49 : Int32).toNatClampNeg 103) (50 : Int32).toNatClampNeg 97) (51 : Int32).toNatClampNeg 112) (52 : Int32).toNatClampNeg 32) (53 : Int32).toNatClampNeg 0) (54 : Int32).toNatClampNeg 99) (55 : Int32).toNatClampNeg 111) (56 : Int32).toNatClampNeg 115) (57 : Int32).toNatClampNeg 116) (58 : Int32).toNatClampNeg 32) (59 : Int32).toNatClampNeg 0) (60 : Int32).toNatClampNeg 97) (61 : Int32).toNatClampNeg 116) (62 : Int32).toNatClampNeg 32) (63 : Int32).toNatClampNeg 0))), (q_15, .inl (cI, 10, .inl (upd (upd (upd (upd (upd (upd (upd (upd (upd (upd (fun _ => 0) (0 : Int32).toNatClampNeg 1) (1 : Int32).toNatClampNeg 1) (2 : Int32).toNatClampNeg 2) (3 : Int32).toNatClampNeg 3) (4 : Int32).toNatClampNeg 1) (5 : Int32).toNatClampNeg 1) (6 : Int32).toNatClampNeg 1) (7 : Int32).toNatClampNeg 1) (8 : Int32).toNatClampNeg 2) (9 : Int32).toNatClampNeg 1))), (q_16, .inl (cI, 3, .inl (fun _ => 0))), (q_17, .inl (cI, 130, .inl (fun _ => 0))), (q_18, .inl (cI, 130, .inl (fun _ => 0))), (q_19, .inl (cI, 3, .inl (fun _ => 0)))]) hP hD rfl
  clear hP hD
  obtain ⟨hP, hD⟩ := h9R
  refine lv_aload_n hx hb dX8_init_610 rfl (lv_at hl 0 rfl) ?_
  refine lv_iconst (v := 3) hx hb dX8_init_611 (by decide) ?_
  refine va_newa hx hb (atype := .int) (hts _ (List.mem_of_getElem? (i := 9) rfl)) rfl hK hP hD hS hA (N' := 3) (a0 := (3, .inl (fun _ => 0))) (fun _ => rfl) (by decide) (by decide) (Nat.le_of_ble_eq_true rfl) (Nat.le_of_ble_eq_true rfl) (Nat.le_of_ble_eq_true rfl) dX8_init_612 (fun q_20 cA H hK1 hP hD hS => ?_)
  obtain rfl : cI = cA := zk_eqI (k := 0) hK rfl hK1
  have h9R := zRe (ws' := ((m0, .inr (8, (.int 0 :: .int 20 :: .int 0 :: .int 0 :: .int 0 :: .int 60 :: .int 0 :: .int 3 :: .int 1 :: .int (-1) :: .ref q_1 :: .ref q_2 :: .ref q_3 :: .ref q_4 :: .ref q_5 :: .ref q_6 :: .ref q_7 :: .ref q_8 :: .ref q_9 :: .ref q_10 :: .ref q_11 :: .ref q_12 :: .ref q_13 :: .ref q_14 :: .ref q_15 :: .ref q_16 :: .int 0 :: .int 0 :: .int 0 :: .int 0 :: .int 0 :: .ref q_17 :: .ref q_18 :: .ref q_19 :: .null :: .null :: .int 0 :: .int 0 :: []))) :: (q_1, .inl (cI, 8, .inl (fun _ => 0))) :: (q_2, .inl (cI, 8, .inl (fun _ => 0))) :: (q_3, .inl (cI, 8, .inl (fun _ => 0))) :: (q_4, .inl (cI, 8, .inl (fun _ => 0))) :: (q_5, .inl (cI, 40, .inl (fun _ => 0))) :: (q_6, .inl (cI, 40, .inl (fun _ => 0))) :: (q_7, .inl (cI, 3, .inl (zL3 5 10 50))) :: (q_8, .inl (cI, 8, .inl (fun _ => 0))) :: (q_9, .inl (cI, 8, .inl (fun _ => 0))) :: (q_10, .inl (cI, 8, .inl (fun _ => 0))) :: (q_11, .inl (cI, 8, .inl (fun _ => 0))) :: (q_12, .inl (cJ, 1280, .inr (.inl (fun _ => 0)))) :: (q_13, .inl (cJ, 160, .inr (.inl (fun _ => 0)))) :: (q_14, .inl (cI, 64, .inl (upd (upd (upd (upd (upd (upd (upd (upd (upd (upd (upd (upd (upd (upd (upd (upd (upd (upd (upd (upd (upd (upd (upd (upd (upd (upd (upd (upd (upd (upd (upd (upd (upd (upd (upd (upd (upd (upd (upd (upd (upd (upd (upd (upd (upd (upd (upd (upd (upd (upd (upd (upd (upd (upd (upd (upd (upd (upd (upd (upd (upd (upd (upd (upd (fun _ => 0) (0 : Int32).toNatClampNeg 116) (1 : Int32).toNatClampNeg 101) (2 : Int32).toNatClampNeg 101) (3 : Int32).toNatClampNeg 116) (4 : Int32).toNatClampNeg 104) (5 : Int32).toNatClampNeg 32) (6 : Int32).toNatClampNeg 0) (7 : Int32).toNatClampNeg 108) (8 : Int32).toNatClampNeg 97) (9 : Int32).toNatClampNeg 99) (10 : Int32).toNatClampNeg 107) (11 : Int32).toNatClampNeg 32) (12 : Int32).toNatClampNeg 0) (13 : Int32).toNatClampNeg 115) (14 : Int32).toNatClampNeg 108) (15 : Int32).toNatClampNeg 97) (16 : Int32).toNatClampNeg 99) (17 : Int32).toNatClampNeg 107) (18 : Int32).toNatClampNeg 32) (19 : Int32).toNatClampNeg 0) (20 : Int32).toNatClampNeg 112) (21 : Int32).toNatClampNeg 117) (22 : Int32).toNatClampNeg 108) (23 : Int32).toNatClampNeg 108) (24 : Int32).toNatClampNeg 32) (25 : Int32).toNatClampNeg 0) (26 : Int32).toNatClampNeg 100) (27 : Int32).toNatClampNeg 101) (28 : Int32).toNatClampNeg 112) (29 : Int32).toNatClampNeg 116) (30 : Int32).toNatClampNeg 104) (31 : Int32).toNatClampNeg 32) (32 : Int32).toNatClampNeg 0) (33 : Int32).toNatClampNeg 115) (34 : Int32).toNatClampNeg 101) (35 : Int32).toNatClampNeg 99) (36 : Int32).toNatClampNeg 111) (37 : Int32).toNatClampNeg 110) (38 : Int32).toNatClampNeg 100) (39 : Int32).toNatClampNeg 115) (40 : Int32).toNatClampNeg 32) (41 : Int32).toNatClampNeg 0) (42 : Int32).toNatClampNeg 104) (43 : Int32).toNatClampNeg 117) (44 : Int32).toNatClampNeg 114) (45 : Int32).toNatClampNeg 114) (46 : Int32).toNatClampNeg 121) (47 : Int32).toNatClampNeg 32) (48 : Int32).toNatClampNeg 0) (49 : Int32).toNatClampNeg 103) (50 : Int32).toNatClampNeg 97) (51 : Int32).toNatClampNeg 112) (52 : Int32).toNatClampNeg 32) (53 : Int32).toNatClampNeg 0) (54 : Int32).toNatClampNeg 99) (55 : Int32).toNatClampNeg 111) (56 : Int32).toNatClampNeg 115) (57 : Int32).toNatClampNeg 116) (58 : Int32).toNatClampNeg 32) (59 : Int32).toNatClampNeg 0) (60 : Int32).toNatClampNeg 97) (61 : Int32).toNatClampNeg 116) (62 : Int32).toNatClampNeg 32) (63 : Int32).toNatClampNeg 0))) :: (q_15, .inl (cI, 10, .inl (upd (upd (upd (upd (upd (upd (upd (upd (upd (upd (fun _ => 0) (0 : Int32).toNatClampNeg 1) (1 : Int32).toNatClampNeg 1) (2 : Int32).toNatClampNeg 2) (3 : Int32).toNatClampNeg 3) (4 : Int32).toNatClampNeg 1) (5 : Int32).toNatClampNeg 1) (6 : Int32).toNatClampNeg 1) (7 : Int32).toNatClampNeg 1) (8 : Int32).toNatClampNeg 2) (9 : Int32).toNatClampNeg 1))) :: (q_16, .inl (cI, 3, .inl (fun _ => 0))) :: (q_17, .inl (cI, 130, .inl (fun _ => 0))) :: (q_18, .inl (cI, 130, .inl (fun _ => 0))) :: (q_19, .inl (cI, 3, .inl (fun _ => 0))) :: (q_20, .inl (cI, 3, .inl (fun _ => 0))) :: [])) hP hD rfl
  clear hP hD
  obtain ⟨hP, hD⟩ := h9R
  refine W.widen (k := 20) (n := 1930) (Nat.le_of_ble_eq_true rfl) (Nat.le_of_ble_eq_true rfl) ?_
  refine va_putF (D := D) (ci := 8) (v := .ref q_20) (ty := (.array .int)) (C := RX8) (T := TX8) (N := 38) hx hb hts hi_X8_init_8 tyX8 tyX8_ok nmX8 hown hK hP hD hS 0 rfl rfl 34 (by decide) (hts (.fieldLink RX8 84 "TheLiningsInItModel" "then" "[I") (List.mem_of_getElem? (i := 30) rfl)) (fun _ h9 => h9) rfl hin rfl (tyX8_ok 34 (Nat.le_of_ble_eq_true rfl)) rfl rfl (Nat.le_of_ble_eq_true rfl) dX8_init_614 (fun H locs hP hD hS => ?_)
  have h9R := zRe (ws' := ((m0, .inr (8, (.int 0 :: .int 20 :: .int 0 :: .int 0 :: .int 0 :: .int 60 :: .int 0 :: .int 3 :: .int 1 :: .int (-1) :: .ref q_1 :: .ref q_2 :: .ref q_3 :: .ref q_4 :: .ref q_5 :: .ref q_6 :: .ref q_7 :: .ref q_8 :: .ref q_9 :: .ref q_10 :: .ref q_11 :: .ref q_12 :: .ref q_13 :: .ref q_14 :: .ref q_15 :: .ref q_16 :: .int 0 :: .int 0 :: .int 0 :: .int 0 :: .int 0 :: .ref q_17 :: .ref q_18 :: .ref q_19 :: .ref q_20 :: .null :: .int 0 :: .int 0 :: []))) :: (q_1, .inl (cI, 8, .inl (fun _ => 0))) :: (q_2, .inl (cI, 8, .inl (fun _ => 0))) :: (q_3, .inl (cI, 8, .inl (fun _ => 0))) :: (q_4, .inl (cI, 8, .inl (fun _ => 0))) :: (q_5, .inl (cI, 40, .inl (fun _ => 0))) :: (q_6, .inl (cI, 40, .inl (fun _ => 0))) :: (q_7, .inl (cI, 3, .inl (zL3 5 10 50))) :: (q_8, .inl (cI, 8, .inl (fun _ => 0))) :: (q_9, .inl (cI, 8, .inl (fun _ => 0))) :: (q_10, .inl (cI, 8, .inl (fun _ => 0))) :: (q_11, .inl (cI, 8, .inl (fun _ => 0))) :: (q_12, .inl (cJ, 1280, .inr (.inl (fun _ => 0)))) :: (q_13, .inl (cJ, 160, .inr (.inl (fun _ => 0)))) :: (q_14, .inl (cI, 64, .inl (upd (upd (upd (upd (upd (upd (upd (upd (upd (upd (upd (upd (upd (upd (upd (upd (upd (upd (upd (upd (upd (upd (upd (upd (upd (upd (upd (upd (upd (upd (upd (upd (upd (upd (upd (upd (upd (upd (upd (upd (upd (upd (upd (upd (upd (upd (upd (upd (upd (upd (upd (upd (upd (upd (upd (upd (upd (upd (upd (upd (upd (upd (upd (upd (fun _ => 0) (0 : Int32).toNatClampNeg 116) (1 : Int32).toNatClampNeg 101) (2 : Int32).toNatClampNeg 101) (3 : Int32).toNatClampNeg 116) (4 : Int32).toNatClampNeg 104) (5 : Int32).toNatClampNeg 32) (6 : Int32).toNatClampNeg 0) (7 : Int32).toNatClampNeg 108) (8 : Int32).toNatClampNeg 97) (9 : Int32).toNatClampNeg 99) (10 : Int32).toNatClampNeg 107) (11 : Int32).toNatClampNeg 32) (12 : Int32).toNatClampNeg 0) (13 : Int32).toNatClampNeg 115) (14 : Int32).toNatClampNeg 108) (15 : Int32).toNatClampNeg 97) (16 : Int32).toNatClampNeg 99) (17 : Int32).toNatClampNeg 107) (18 : Int32).toNatClampNeg 32) (19 : Int32).toNatClampNeg 0) (20 : Int32).toNatClampNeg 112) (21 : Int32).toNatClampNeg 117) (22 : Int32).toNatClampNeg 108) (23 : Int32).toNatClampNeg 108) (24 : Int32).toNatClampNeg 32) (25 : Int32).toNatClampNeg 0) (26 : Int32).toNatClampNeg 100) (27 : Int32).toNatClampNeg 101) (28 : Int32).toNatClampNeg 112) (29 : Int32).toNatClampNeg 116) (30 : Int32).toNatClampNeg 104) (31 : Int32).toNatClampNeg 32) (32 : Int32).toNatClampNeg 0) (33 : Int32).toNatClampNeg 115) (34 : Int32).toNatClampNeg 101) (35 : Int32).toNatClampNeg 99) (36 : Int32).toNatClampNeg 111) (37 : Int32).toNatClampNeg 110) (38 : Int32).toNatClampNeg 100) (39 : Int32).toNatClampNeg 115) (40 : Int32).toNatClampNeg 32) (41 : Int32).toNatClampNeg 0) (42 : Int32).toNatClampNeg 104) (43 : Int32).toNatClampNeg 117) (44 : Int32).toNatClampNeg 114) (45 : Int32).toNatClampNeg 114) (46 : Int32).toNatClampNeg 121) (47 : Int32).toNatClampNeg 32) (48 : Int32).toNatClampNeg 0) (49 : Int32).toNatClampNeg 103) (50 : Int32).toNatClampNeg 97) (51 : Int32).toNatClampNeg 112) (52 : Int32).toNatClampNeg 32) (53 : Int32).toNatClampNeg 0) (54 : Int32).toNatClampNeg 99) (55 : Int32).toNatClampNeg 111) (56 : Int32).toNatClampNeg 115) (57 : Int32).toNatClampNeg 116) (58 : Int32).toNatClampNeg 32) (59 : Int32).toNatClampNeg 0) (60 : Int32).toNatClampNeg 97) (61 : Int32).toNatClampNeg 116) (62 : Int32).toNatClampNeg 32) (63 : Int32).toNatClampNeg 0))) :: (q_15, .inl (cI, 10, .inl (upd (upd (upd (upd (upd (upd (upd (upd (upd (upd (fun _ => 0) (0 : Int32).toNatClampNeg 1) (1 : Int32).toNatClampNeg 1) (2 : Int32).toNatClampNeg 2) (3 : Int32).toNatClampNeg 3) (4 : Int32).toNatClampNeg 1) (5 : Int32).toNatClampNeg 1) (6 : Int32).toNatClampNeg 1) (7 : Int32).toNatClampNeg 1) (8 : Int32).toNatClampNeg 2) (9 : Int32).toNatClampNeg 1))) :: (q_16, .inl (cI, 3, .inl (fun _ => 0))) :: (q_17, .inl (cI, 130, .inl (fun _ => 0))) :: (q_18, .inl (cI, 130, .inl (fun _ => 0))) :: (q_19, .inl (cI, 3, .inl (fun _ => 0))) :: (q_20, .inl (cI, 3, .inl (fun _ => 0))) :: [])) hP hD rfl
  clear hP hD
  obtain ⟨hP, hD⟩ := h9R
  refine lv_aload_n hx hb dX8_init_617 rfl (lv_at hl 0 rfl) ?_
  refine lv_bipush (v := 20) hx hb dX8_init_618 (by decide) ?_
  refine va_newa hx hb (atype := .int) (hts _ (List.mem_of_getElem? (i := 9) rfl)) rfl hK hP hD hS hA (N' := 20) (a0 := (20, .inl (fun _ => 0))) (fun _ => rfl) (by decide) (by decide) (Nat.le_of_ble_eq_true rfl) (Nat.le_of_ble_eq_true rfl) (Nat.le_of_ble_eq_true rfl) dX8_init_620 (fun q_21 cA H hK1 hP hD hS => ?_)
  obtain rfl : cI = cA := zk_eqI (k := 0) hK rfl hK1
  have h9R := zRe (ws' := ((m0, .inr (8, (.int 0 :: .int 20 :: .int 0 :: .int 0 :: .int 0 :: .int 60 :: .int 0 :: .int 3 :: .int 1 :: .int (-1) :: .ref q_1 :: .ref q_2 :: .ref q_3 :: .ref q_4 :: .ref q_5 :: .ref q_6 :: .ref q_7 :: .ref q_8 :: .ref q_9 :: .ref q_10 :: .ref q_11 :: .ref q_12 :: .ref q_13 :: .ref q_14 :: .ref q_15 :: .ref q_16 :: .int 0 :: .int 0 :: .int 0 :: .int 0 :: .int 0 :: .ref q_17 :: .ref q_18 :: .ref q_19 :: .ref q_20 :: .null :: .int 0 :: .int 0 :: []))) :: (q_1, .inl (cI, 8, .inl (fun _ => 0))) :: (q_2, .inl (cI, 8, .inl (fun _ => 0))) :: (q_3, .inl (cI, 8, .inl (fun _ => 0))) :: (q_4, .inl (cI, 8, .inl (fun _ => 0))) :: (q_5, .inl (cI, 40, .inl (fun _ => 0))) :: (q_6, .inl (cI, 40, .inl (fun _ => 0))) :: (q_7, .inl (cI, 3, .inl (zL3 5 10 50))) :: (q_8, .inl (cI, 8, .inl (fun _ => 0))) :: (q_9, .inl (cI, 8, .inl (fun _ => 0))) :: (q_10, .inl (cI, 8, .inl (fun _ => 0))) :: (q_11, .inl (cI, 8, .inl (fun _ => 0))) :: (q_12, .inl (cJ, 1280, .inr (.inl (fun _ => 0)))) :: (q_13, .inl (cJ, 160, .inr (.inl (fun _ => 0)))) :: (q_14, .inl (cI, 64, .inl (upd (upd (upd (upd (upd (upd (upd (upd (upd (upd (upd (upd (upd (upd (upd (upd (upd (upd (upd (upd (upd (upd (upd (upd (upd (upd (upd (upd (upd (upd (upd (upd (upd (upd (upd (upd (upd (upd (upd (upd (upd (upd (upd (upd (upd (upd (upd (upd (upd (upd (upd (upd (upd (upd (upd (upd (upd (upd (upd (upd (upd (upd (upd (upd (fun _ => 0) (0 : Int32).toNatClampNeg 116) (1 : Int32).toNatClampNeg 101) (2 : Int32).toNatClampNeg 101) (3 : Int32).toNatClampNeg 116) (4 : Int32).toNatClampNeg 104) (5 : Int32).toNatClampNeg 32) (6 : Int32).toNatClampNeg 0) (7 : Int32).toNatClampNeg 108) (8 : Int32).toNatClampNeg 97) (9 : Int32).toNatClampNeg 99) (10 : Int32).toNatClampNeg 107) (11 : Int32).toNatClampNeg 32) (12 : Int32).toNatClampNeg 0) (13 : Int32).toNatClampNeg 115) (14 : Int32).toNatClampNeg 108) (15 : Int32).toNatClampNeg 97) (16 : Int32).toNatClampNeg 99) (17 : Int32).toNatClampNeg 107) (18 : Int32).toNatClampNeg 32) (19 : Int32).toNatClampNeg 0) (20 : Int32).toNatClampNeg 112) (21 : Int32).toNatClampNeg 117) (22 : Int32).toNatClampNeg 108) (23 : Int32).toNatClampNeg 108) (24 : Int32).toNatClampNeg 32) (25 : Int32).toNatClampNeg 0) (26 : Int32).toNatClampNeg 100) (27 : Int32).toNatClampNeg 101) (28 : Int32).toNatClampNeg 112) (29 : Int32).toNatClampNeg 116) (30 : Int32).toNatClampNeg 104) (31 : Int32).toNatClampNeg 32) (32 : Int32).toNatClampNeg 0) (33 : Int32).toNatClampNeg 115) (34 : Int32).toNatClampNeg 101) (35 : Int32).toNatClampNeg 99) (36 : Int32).toNatClampNeg 111) (37 : Int32).toNatClampNeg 110) (38 : Int32).toNatClampNeg 100) (39 : Int32).toNatClampNeg 115) (40 : Int32).toNatClampNeg 32) (41 : Int32).toNatClampNeg 0) (42 : Int32).toNatClampNeg 104) (43 : Int32).toNatClampNeg 117) (44 : Int32).toNatClampNeg 114) (45 : Int32).toNatClampNeg 114) (46 : Int32).toNatClampNeg 121) (47 : Int32).toNatClampNeg 32) (48 : Int32).toNatClampNeg 0) (49 : Int32).toNatClampNeg 103) (50 : Int32).toNatClampNeg 97) (51 : Int32).toNatClampNeg 112) (52 : Int32).toNatClampNeg 32) (53 : Int32).toNatClampNeg 0) (54 : Int32).toNatClampNeg 99) (55 : Int32).toNatClampNeg 111) (56 : Int32).toNatClampNeg 115) (57 : Int32).toNatClampNeg 116) (58 : Int32).toNatClampNeg 32) (59 : Int32).toNatClampNeg 0) (60 : Int32).toNatClampNeg 97) (61 : Int32).toNatClampNeg 116) (62 : Int32).toNatClampNeg 32) (63 : Int32).toNatClampNeg 0))) :: (q_15, .inl (cI, 10, .inl (upd (upd (upd (upd (upd (upd (upd (upd (upd (upd (fun _ => 0) (0 : Int32).toNatClampNeg 1) (1 : Int32).toNatClampNeg 1) (2 : Int32).toNatClampNeg 2) (3 : Int32).toNatClampNeg 3) (4 : Int32).toNatClampNeg 1) (5 : Int32).toNatClampNeg 1) (6 : Int32).toNatClampNeg 1) (7 : Int32).toNatClampNeg 1) (8 : Int32).toNatClampNeg 2) (9 : Int32).toNatClampNeg 1))) :: (q_16, .inl (cI, 3, .inl (fun _ => 0))) :: (q_17, .inl (cI, 130, .inl (fun _ => 0))) :: (q_18, .inl (cI, 130, .inl (fun _ => 0))) :: (q_19, .inl (cI, 3, .inl (fun _ => 0))) :: (q_20, .inl (cI, 3, .inl (fun _ => 0))) :: (q_21, .inl (cI, 20, .inl (fun _ => 0))) :: [])) hP hD rfl
  clear hP hD
  obtain ⟨hP, hD⟩ := h9R
  refine W.widen (k := 21) (n := 1950) (Nat.le_of_ble_eq_true rfl) (Nat.le_of_ble_eq_true rfl) ?_
  refine va_putF (D := D) (ci := 8) (v := .ref q_21) (ty := (.array .int)) (C := RX8) (T := TX8) (N := 38) hx hb hts hi_X8_init_8 tyX8 tyX8_ok nmX8 hown hK hP hD hS 0 rfl rfl 35 (by decide) (hts (.fieldLink RX8 87 "TheLiningsInItModel" "trace" "[I") (List.mem_of_getElem? (i := 31) rfl)) (fun _ h9 => h9) rfl hin rfl (tyX8_ok 35 (Nat.le_of_ble_eq_true rfl)) rfl rfl (Nat.le_of_ble_eq_true rfl) dX8_init_622 (fun H locs hP hD hS => ?_)
  have h9R := zRe (ws' := ((zMO m0 0 20 0 0 0 60 0 3 1 (-1) q_1 q_2 q_3 q_4 q_5 q_6 q_7 q_8 q_9 q_10 q_11 q_12 q_13 q_14 q_15 q_16 0 0 0 0 0 q_17 q_18 q_19 q_20 q_21 0 0) :: (q_1, .inl (cI, 8, .inl (fun _ => 0))) :: (q_2, .inl (cI, 8, .inl (fun _ => 0))) :: (q_3, .inl (cI, 8, .inl (fun _ => 0))) :: (q_4, .inl (cI, 8, .inl (fun _ => 0))) :: (q_5, .inl (cI, 40, .inl (fun _ => 0))) :: (q_6, .inl (cI, 40, .inl (fun _ => 0))) :: (q_7, .inl (cI, 3, .inl (zL3 5 10 50))) :: (q_8, .inl (cI, 8, .inl (fun _ => 0))) :: (q_9, .inl (cI, 8, .inl (fun _ => 0))) :: (q_10, .inl (cI, 8, .inl (fun _ => 0))) :: (q_11, .inl (cI, 8, .inl (fun _ => 0))) :: (q_12, .inl (cJ, 1280, .inr (.inl (fun _ => 0)))) :: (q_13, .inl (cJ, 160, .inr (.inl (fun _ => 0)))) :: (q_14, .inl (cI, 64, .inl (upd (upd (upd (upd (upd (upd (upd (upd (upd (upd (upd (upd (upd (upd (upd (upd (upd (upd (upd (upd (upd (upd (upd (upd (upd (upd (upd (upd (upd (upd (upd (upd (upd (upd (upd (upd (upd (upd (upd (upd (upd (upd (upd (upd (upd (upd (upd (upd (upd (upd (upd (upd (upd (upd (upd (upd (upd (upd (upd (upd (upd (upd (upd (upd (fun _ => 0) (0 : Int32).toNatClampNeg 116) (1 : Int32).toNatClampNeg 101) (2 : Int32).toNatClampNeg 101) (3 : Int32).toNatClampNeg 116) (4 : Int32).toNatClampNeg 104) (5 : Int32).toNatClampNeg 32) (6 : Int32).toNatClampNeg 0) (7 : Int32).toNatClampNeg 108) (8 : Int32).toNatClampNeg 97) (9 : Int32).toNatClampNeg 99) (10 : Int32).toNatClampNeg 107) (11 : Int32).toNatClampNeg 32) (12 : Int32).toNatClampNeg 0) (13 : Int32).toNatClampNeg 115) (14 : Int32).toNatClampNeg 108) (15 : Int32).toNatClampNeg 97) (16 : Int32).toNatClampNeg 99) (17 : Int32).toNatClampNeg 107) (18 : Int32).toNatClampNeg 32) (19 : Int32).toNatClampNeg 0) (20 : Int32).toNatClampNeg 112) (21 : Int32).toNatClampNeg 117) (22 : Int32).toNatClampNeg 108) (23 : Int32).toNatClampNeg 108) (24 : Int32).toNatClampNeg 32) (25 : Int32).toNatClampNeg 0) (26 : Int32).toNatClampNeg 100) (27 : Int32).toNatClampNeg 101) (28 : Int32).toNatClampNeg 112) (29 : Int32).toNatClampNeg 116) (30 : Int32).toNatClampNeg 104) (31 : Int32).toNatClampNeg 32) (32 : Int32).toNatClampNeg 0) (33 : Int32).toNatClampNeg 115) (34 : Int32).toNatClampNeg 101) (35 : Int32).toNatClampNeg 99) (36 : Int32).toNatClampNeg 111) (37 : Int32).toNatClampNeg 110) (38 : Int32).toNatClampNeg 100) (39 : Int32).toNatClampNeg 115) (40 : Int32).toNatClampNeg 32) (41 : Int32).toNatClampNeg 0) (42 : Int32).toNatClampNeg 104) (43 : Int32).toNatClampNeg 117) (44 : Int32).toNatClampNeg 114) (45 : Int32).toNatClampNeg 114) (46 : Int32).toNatClampNeg 121) (47 : Int32).toNatClampNeg 32) (48 : Int32).toNatClampNeg 0) (49 : Int32).toNatClampNeg 103) (50 : Int32).toNatClampNeg 97) (51 : Int32).toNatClampNeg 112) (52 : Int32).toNatClampNeg 32) (53 : Int32).toNatClampNeg 0) (54 : Int32).toNatClampNeg 99) (55 : Int32).toNatClampNeg 111) (56 : Int32).toNatClampNeg 115) (57 : Int32).toNatClampNeg 116) (58 : Int32).toNatClampNeg 32) (59 : Int32).toNatClampNeg 0) (60 : Int32).toNatClampNeg 97) (61 : Int32).toNatClampNeg 116) (62 : Int32).toNatClampNeg 32) (63 : Int32).toNatClampNeg 0))) :: (q_15, .inl (cI, 10, .inl (upd (upd (upd (upd (upd (upd (upd (upd (upd (upd (fun _ => 0) (0 : Int32).toNatClampNeg 1) (1 : Int32).toNatClampNeg 1) (2 : Int32).toNatClampNeg 2) (3 : Int32).toNatClampNeg 3) (4 : Int32).toNatClampNeg 1) (5 : Int32).toNatClampNeg 1) (6 : Int32).toNatClampNeg 1) (7 : Int32).toNatClampNeg 1) (8 : Int32).toNatClampNeg 2) (9 : Int32).toNatClampNeg 1))) :: (q_16, .inl (cI, 3, .inl (fun _ => 0))) :: (q_17, .inl (cI, 130, .inl (fun _ => 0))) :: (q_18, .inl (cI, 130, .inl (fun _ => 0))) :: (q_19, .inl (cI, 3, .inl (fun _ => 0))) :: (q_20, .inl (cI, 3, .inl (fun _ => 0))) :: (q_21, .inl (cI, 20, .inl (fun _ => 0))) :: [])) hP hD rfl
  clear hP hD
  obtain ⟨hP, hD⟩ := h9R
  refine W.widen (k := 21) (n := 1985) (Nat.le_of_ble_eq_true rfl) (Nat.le_of_ble_eq_true rfl) ?_
  exact W.vret hx hb hr (fun t ht hW => ⟨⟨(q_1, q_2, q_3, q_4, q_5, q_6, q_7, q_8, q_9, q_10, q_11, q_12, q_13, q_14, q_15, q_16, q_17, q_18, q_19, q_20, q_21), rfl, trivial, zRet ht hP hD [0, 1, 2, 3, 4, 5, 6, 7, 8, 9, 10, 11, 12, 13, 14, 15, 16, 17, 18, 19, 20, 21] (by decide) rfl⟩, hS.F ht⟩) hS.2.2 dX8_init_625
end
section
def wsX1_bodyFor : List Cond := (.code yX1_bodyFor cX1_bodyFor 5 (some .int)) :: (.static yX7_within) :: (.initialized RX7) :: (.code yX7_within cX7_within 3 (some .boolean)) :: (.methodLink RX1 55 yX1_ownBody) :: (.static yX1_ownBody) :: (.initialized RX1) :: (.code yX1_ownBody cX1_ownBody 2 (some .int)) :: []
def wsX1_run : List Cond := (.code yX1_run cX1_run 7 (some .int)) :: (.fieldLink RX1 22 "TheLiningsInIt$Moves" "m" "I") :: (.fieldLink RX1 19 "TheLiningsInIt$Moves" "kind" "I") :: (.fieldLink RX1 25 "TheLiningsInIt$Moves" "k" "I") :: (.methodLink RX1 48 yX1_bodyFor) :: (.static yX1_bodyFor) :: (.initialized RX1) :: (.code yX1_bodyFor cX1_bodyFor 5 (some .int)) :: (.static yX7_within) :: (.initialized RX7) :: (.code yX7_within cX7_within 3 (some .boolean)) :: (.methodLink RX1 55 yX1_ownBody) :: (.static yX1_ownBody) :: (.code yX1_ownBody cX1_ownBody 2 (some .int)) :: (.methodLink RX1 51 yX1_note) :: (.instanceMethod yX1_note) :: (.selects RX1 yX1_note yX1_note) :: (.code yX1_note cX1_note 2 none) :: (.fieldLink RX1 15 "TheLiningsInIt$Moves" "ran" "I") :: (.fieldLink RX1 11 "TheLiningsInIt$Moves" "bodies" "[I") :: (.methodLink RX1 34 yX1_run) :: (.instanceMethod yX1_run) :: (.selects RX1 yX1_run yX1_run) :: wsX10
set_option maxRecDepth 20000 in
theorem ggX1_run_X1_bodyFor : GoodIn wsX1_run wsX1_bodyFor := (dg_c 7 rfl rfl (dg_c 8 rfl rfl (dg_c 9 rfl rfl (dg_c 10 rfl rfl (dg_c 11 rfl rfl (dg_c 12 rfl rfl (dg_c 6 rfl rfl (dg_c 13 rfl rfl dg_0))))))))
set_option maxRecDepth 20000 in
theorem gX1_run_X1_bodyFor : GoodIn wsX1_run (va_wsS RX1 48 yX1_bodyFor wsX1_bodyFor) := goodIn_app (dg_c 4 rfl rfl (dg_c 5 rfl rfl (dg_c 6 rfl rfl dg_0))) ggX1_run_X1_bodyFor
set_option maxRecDepth 20000 in
theorem gl_X1_run_X10 : GoodIn wsX1_run wsX10 := (dg_t (dg_t (dg_t (dg_t (dg_t (dg_t (dg_t (dg_t (dg_t (dg_t (dg_t (dg_t (dg_t (dg_t (dg_t (dg_t (dg_t (dg_t (dg_t (dg_t (dg_t (dg_t (dg_t gw_wsX10)))))))))))))))))))))))
theorem ggX1_run_X1_note : GoodIn wsX1_run wsX1_note := (dg_c 17 rfl rfl (dg_c 18 rfl rfl (dg_c 19 rfl rfl gl_X1_run_X10)))
set_option maxRecDepth 20000 in
theorem gX1_run_X1_note : GoodIn wsX1_run (wsV RX1 51 RX1 yX1_note wsX1_note) := goodIn_app (dg_c 14 rfl rfl (dg_c 15 rfl rfl (dg_c 16 rfl rfl (dg_c 6 rfl rfl dg_0)))) ggX1_run_X1_note
set_option maxRecDepth 20000 in
theorem ggX1_run_X1_run : GoodIn wsX1_run wsX1_run := (dg_c 0 rfl rfl (dg_c 1 rfl rfl (dg_c 2 rfl rfl (dg_c 3 rfl rfl (dg_c 4 rfl rfl (dg_c 5 rfl rfl (dg_c 6 rfl rfl (dg_c 7 rfl rfl (dg_c 8 rfl rfl (dg_c 9 rfl rfl (dg_c 10 rfl rfl (dg_c 11 rfl rfl (dg_c 12 rfl rfl (dg_c 13 rfl rfl (dg_c 14 rfl rfl (dg_c 15 rfl rfl (dg_c 16 rfl rfl (dg_c 17 rfl rfl (dg_c 18 rfl rfl (dg_c 19 rfl rfl (dg_c 20 rfl rfl (dg_c 21 rfl rfl (dg_c 22 rfl rfl gl_X1_run_X10)))))))))))))))))))))))
set_option maxRecDepth 20000 in
theorem gX1_run_X1_run : GoodIn wsX1_run (wsV RX1 34 RX1 yX1_run wsX1_run) := goodIn_app (dg_c 20 rfl rfl (dg_c 21 rfl rfl (dg_c 22 rfl rfl (dg_c 6 rfl rfl dg_0)))) ggX1_run_X1_run
theorem dX1_run_0 : decode cX1_run 0 = .ok (.iload_n 1, 1) := dq_27 dp_cX1_run rfl
theorem dX1_run_1 : decode cX1_run 1 = .ok (.iload_n 2, 1) := dq_28 dp_cX1_run rfl
theorem dX1_run_2 : decode cX1_run 2 = .ok (.invokestatic 48, 3) := dq_184 dp_cX1_run rfl
theorem dX1_run_5 : decode cX1_run 5 = .ok (.istore 5, 2) := dq_54 dp_cX1_run rfl
theorem dX1_run_7 : decode cX1_run 7 = .ok (.iload 5, 2) := dq_21 dp_cX1_run rfl
theorem dX1_run_9 : decode cX1_run 9 = .ok (.iconst (-1), 1) := dq_2 dp_cX1_run rfl
theorem dX1_run_10 : decode cX1_run 10 = .ok (.if_icmp .eq 10, 3) := dq_159 (v := 10) dp_cX1_run rfl rfl
theorem dX1_run_13 : decode cX1_run 13 = .ok (.iload 4, 2) := dq_21 dp_cX1_run rfl
theorem dX1_run_15 : decode cX1_run 15 = .ok (.bipush 40, 2) := dq_16 (v := 40) dp_cX1_run rfl rfl
theorem dX1_run_17 : decode cX1_run 17 = .ok (.if_icmp .lt 5, 3) := dq_161 (v := 5) dp_cX1_run rfl rfl
theorem dX1_run_22 : decode cX1_run 22 = .ok (.aload_n 0, 1) := dq_42 dp_cX1_run rfl
theorem dX1_run_23 : decode cX1_run 23 = .ok (.iload 5, 2) := dq_21 dp_cX1_run rfl
theorem dX1_run_25 : decode cX1_run 25 = .ok (.invokevirtual 51, 3) := dq_182 dp_cX1_run rfl
theorem dX1_run_28 : decode cX1_run 28 = .ok (.iload 4, 2) := dq_21 dp_cX1_run rfl
theorem dX1_run_30 : decode cX1_run 30 = .ok (.iconst 1, 1) := dq_4 dp_cX1_run rfl
theorem dX1_run_31 : decode cX1_run 31 = .ok (.iadd, 1) := dq_96 dp_cX1_run rfl
theorem dX1_run_32 : decode cX1_run 32 = .ok (.istore 6, 2) := dq_54 dp_cX1_run rfl
theorem dX1_run_34 : decode cX1_run 34 = .ok (.iload 5, 2) := dq_21 dp_cX1_run rfl
theorem dX1_run_36 : decode cX1_run 36 = .ok (.lookupswitch 234 #[(10, 92), (11, 99), (12, 114), (20, 145), (30, 160), (40, 172), (50, 184), (51, 195), (60, 210), (70, 222)], 92) := by decide +kernel
theorem dX1_run_128 : decode cX1_run 128 = .ok (.iload_n 3, 1) := dq_29 dp_cX1_run rfl
theorem dX1_run_129 : decode cX1_run 129 = .ok (.aload_n 0, 1) := dq_42 dp_cX1_run rfl
theorem dX1_run_130 : decode cX1_run 130 = .ok (.getfield 22, 3) := dq_180 dp_cX1_run rfl
theorem dX1_run_133 : decode cX1_run 133 = .ok (.iadd, 1) := dq_96 dp_cX1_run rfl
theorem dX1_run_134 : decode cX1_run 134 = .ok (.ireturn, 1) := dq_172 dp_cX1_run rfl
theorem dX1_run_135 : decode cX1_run 135 = .ok (.aload_n 0, 1) := dq_42 dp_cX1_run rfl
theorem dX1_run_136 : decode cX1_run 136 = .ok (.aload_n 0, 1) := dq_42 dp_cX1_run rfl
theorem dX1_run_137 : decode cX1_run 137 = .ok (.getfield 19, 3) := dq_180 dp_cX1_run rfl
theorem dX1_run_140 : decode cX1_run 140 = .ok (.iconst 0, 1) := dq_3 dp_cX1_run rfl
theorem dX1_run_141 : decode cX1_run 141 = .ok (.iload_n 3, 1) := dq_29 dp_cX1_run rfl
theorem dX1_run_142 : decode cX1_run 142 = .ok (.iload 6, 2) := dq_21 dp_cX1_run rfl
theorem dX1_run_144 : decode cX1_run 144 = .ok (.invokevirtual 34, 3) := dq_182 dp_cX1_run rfl
theorem dX1_run_147 : decode cX1_run 147 = .ok (.iconst 2, 1) := dq_5 dp_cX1_run rfl
theorem dX1_run_148 : decode cX1_run 148 = .ok (.imul, 1) := dq_104 dp_cX1_run rfl
theorem dX1_run_149 : decode cX1_run 149 = .ok (.ireturn, 1) := dq_172 dp_cX1_run rfl
theorem dX1_run_150 : decode cX1_run 150 = .ok (.aload_n 0, 1) := dq_42 dp_cX1_run rfl
theorem dX1_run_151 : decode cX1_run 151 = .ok (.aload_n 0, 1) := dq_42 dp_cX1_run rfl
theorem dX1_run_152 : decode cX1_run 152 = .ok (.getfield 19, 3) := dq_180 dp_cX1_run rfl
theorem dX1_run_155 : decode cX1_run 155 = .ok (.iconst 1, 1) := dq_4 dp_cX1_run rfl
theorem dX1_run_156 : decode cX1_run 156 = .ok (.iload_n 3, 1) := dq_29 dp_cX1_run rfl
theorem dX1_run_157 : decode cX1_run 157 = .ok (.iload 6, 2) := dq_21 dp_cX1_run rfl
theorem dX1_run_159 : decode cX1_run 159 = .ok (.invokevirtual 34, 3) := dq_182 dp_cX1_run rfl
theorem dX1_run_162 : decode cX1_run 162 = .ok (.aload_n 0, 1) := dq_42 dp_cX1_run rfl
theorem dX1_run_163 : decode cX1_run 163 = .ok (.aload_n 0, 1) := dq_42 dp_cX1_run rfl
theorem dX1_run_164 : decode cX1_run 164 = .ok (.getfield 19, 3) := dq_180 dp_cX1_run rfl
theorem dX1_run_167 : decode cX1_run 167 = .ok (.iconst 0, 1) := dq_3 dp_cX1_run rfl
theorem dX1_run_168 : decode cX1_run 168 = .ok (.iload_n 3, 1) := dq_29 dp_cX1_run rfl
theorem dX1_run_169 : decode cX1_run 169 = .ok (.aload_n 0, 1) := dq_42 dp_cX1_run rfl
theorem dX1_run_170 : decode cX1_run 170 = .ok (.getfield 25, 3) := dq_180 dp_cX1_run rfl
theorem dX1_run_173 : decode cX1_run 173 = .ok (.isub, 1) := dq_100 dp_cX1_run rfl
theorem dX1_run_174 : decode cX1_run 174 = .ok (.iload 6, 2) := dq_21 dp_cX1_run rfl
theorem dX1_run_176 : decode cX1_run 176 = .ok (.invokevirtual 34, 3) := dq_182 dp_cX1_run rfl
theorem dX1_run_179 : decode cX1_run 179 = .ok (.ixor, 1) := dq_130 dp_cX1_run rfl
theorem dX1_run_180 : decode cX1_run 180 = .ok (.ireturn, 1) := dq_172 dp_cX1_run rfl
theorem dX1_run_181 : decode cX1_run 181 = .ok (.aload_n 0, 1) := dq_42 dp_cX1_run rfl
theorem dX1_run_182 : decode cX1_run 182 = .ok (.iconst 0, 1) := dq_3 dp_cX1_run rfl
theorem dX1_run_183 : decode cX1_run 183 = .ok (.iconst 0, 1) := dq_3 dp_cX1_run rfl
theorem dX1_run_184 : decode cX1_run 184 = .ok (.iload_n 3, 1) := dq_29 dp_cX1_run rfl
theorem dX1_run_185 : decode cX1_run 185 = .ok (.iload 6, 2) := dq_21 dp_cX1_run rfl
theorem dX1_run_187 : decode cX1_run 187 = .ok (.invokevirtual 34, 3) := dq_182 dp_cX1_run rfl
theorem dX1_run_190 : decode cX1_run 190 = .ok (.aload_n 0, 1) := dq_42 dp_cX1_run rfl
theorem dX1_run_191 : decode cX1_run 191 = .ok (.getfield 25, 3) := dq_180 dp_cX1_run rfl
theorem dX1_run_194 : decode cX1_run 194 = .ok (.iadd, 1) := dq_96 dp_cX1_run rfl
theorem dX1_run_195 : decode cX1_run 195 = .ok (.ireturn, 1) := dq_172 dp_cX1_run rfl
theorem dX1_run_196 : decode cX1_run 196 = .ok (.aload_n 0, 1) := dq_42 dp_cX1_run rfl
theorem dX1_run_197 : decode cX1_run 197 = .ok (.iconst 0, 1) := dq_3 dp_cX1_run rfl
theorem dX1_run_198 : decode cX1_run 198 = .ok (.iconst 1, 1) := dq_4 dp_cX1_run rfl
theorem dX1_run_199 : decode cX1_run 199 = .ok (.iload_n 3, 1) := dq_29 dp_cX1_run rfl
theorem dX1_run_200 : decode cX1_run 200 = .ok (.iload 6, 2) := dq_21 dp_cX1_run rfl
theorem dX1_run_202 : decode cX1_run 202 = .ok (.invokevirtual 34, 3) := dq_182 dp_cX1_run rfl
theorem dX1_run_205 : decode cX1_run 205 = .ok (.iconst 3, 1) := dq_6 dp_cX1_run rfl
theorem dX1_run_206 : decode cX1_run 206 = .ok (.imul, 1) := dq_104 dp_cX1_run rfl
theorem dX1_run_207 : decode cX1_run 207 = .ok (.ireturn, 1) := dq_172 dp_cX1_run rfl
theorem dX1_run_208 : decode cX1_run 208 = .ok (.aload_n 0, 1) := dq_42 dp_cX1_run rfl
theorem dX1_run_209 : decode cX1_run 209 = .ok (.iconst 1, 1) := dq_4 dp_cX1_run rfl
theorem dX1_run_210 : decode cX1_run 210 = .ok (.iconst 1, 1) := dq_4 dp_cX1_run rfl
theorem dX1_run_211 : decode cX1_run 211 = .ok (.iload_n 3, 1) := dq_29 dp_cX1_run rfl
theorem dX1_run_212 : decode cX1_run 212 = .ok (.iconst 1, 1) := dq_4 dp_cX1_run rfl
theorem dX1_run_213 : decode cX1_run 213 = .ok (.iadd, 1) := dq_96 dp_cX1_run rfl
theorem dX1_run_214 : decode cX1_run 214 = .ok (.iload 6, 2) := dq_21 dp_cX1_run rfl
theorem dX1_run_216 : decode cX1_run 216 = .ok (.invokevirtual 34, 3) := dq_182 dp_cX1_run rfl
theorem dX1_run_219 : decode cX1_run 219 = .ok (.ireturn, 1) := dq_172 dp_cX1_run rfl
theorem dX1_run_220 : decode cX1_run 220 = .ok (.aload_n 0, 1) := dq_42 dp_cX1_run rfl
theorem dX1_run_221 : decode cX1_run 221 = .ok (.iconst 0, 1) := dq_3 dp_cX1_run rfl
theorem dX1_run_222 : decode cX1_run 222 = .ok (.iconst 2, 1) := dq_5 dp_cX1_run rfl
theorem dX1_run_223 : decode cX1_run 223 = .ok (.iload_n 3, 1) := dq_29 dp_cX1_run rfl
theorem dX1_run_224 : decode cX1_run 224 = .ok (.iload 6, 2) := dq_21 dp_cX1_run rfl
theorem dX1_run_226 : decode cX1_run 226 = .ok (.invokevirtual 34, 3) := dq_182 dp_cX1_run rfl
theorem dX1_run_229 : decode cX1_run 229 = .ok (.ineg, 1) := dq_116 dp_cX1_run rfl
theorem dX1_run_230 : decode cX1_run 230 = .ok (.ireturn, 1) := dq_172 dp_cX1_run rfl
theorem dX1_run_231 : decode cX1_run 231 = .ok (.aload_n 0, 1) := dq_42 dp_cX1_run rfl
theorem dX1_run_232 : decode cX1_run 232 = .ok (.iconst 0, 1) := dq_3 dp_cX1_run rfl
theorem dX1_run_233 : decode cX1_run 233 = .ok (.iconst 0, 1) := dq_3 dp_cX1_run rfl
theorem dX1_run_234 : decode cX1_run 234 = .ok (.iload_n 3, 1) := dq_29 dp_cX1_run rfl
theorem dX1_run_235 : decode cX1_run 235 = .ok (.iload 6, 2) := dq_21 dp_cX1_run rfl
theorem dX1_run_237 : decode cX1_run 237 = .ok (.invokevirtual 34, 3) := dq_182 dp_cX1_run rfl
theorem dX1_run_240 : decode cX1_run 240 = .ok (.aload_n 0, 1) := dq_42 dp_cX1_run rfl
theorem dX1_run_241 : decode cX1_run 241 = .ok (.getfield 22, 3) := dq_180 dp_cX1_run rfl
theorem dX1_run_244 : decode cX1_run 244 = .ok (.isub, 1) := dq_100 dp_cX1_run rfl
theorem dX1_run_245 : decode cX1_run 245 = .ok (.ireturn, 1) := dq_172 dp_cX1_run rfl
theorem dX1_run_246 : decode cX1_run 246 = .ok (.aload_n 0, 1) := dq_42 dp_cX1_run rfl
theorem dX1_run_247 : decode cX1_run 247 = .ok (.iconst 2, 1) := dq_5 dp_cX1_run rfl
theorem dX1_run_248 : decode cX1_run 248 = .ok (.iconst 2, 1) := dq_5 dp_cX1_run rfl
theorem dX1_run_249 : decode cX1_run 249 = .ok (.iload_n 3, 1) := dq_29 dp_cX1_run rfl
theorem dX1_run_250 : decode cX1_run 250 = .ok (.iload 6, 2) := dq_21 dp_cX1_run rfl
theorem dX1_run_252 : decode cX1_run 252 = .ok (.invokevirtual 34, 3) := dq_182 dp_cX1_run rfl
theorem dX1_run_255 : decode cX1_run 255 = .ok (.iconst 5, 1) := dq_8 dp_cX1_run rfl
theorem dX1_run_256 : decode cX1_run 256 = .ok (.ixor, 1) := dq_130 dp_cX1_run rfl
theorem dX1_run_257 : decode cX1_run 257 = .ok (.ireturn, 1) := dq_172 dp_cX1_run rfl
theorem dX1_run_258 : decode cX1_run 258 = .ok (.aload_n 0, 1) := dq_42 dp_cX1_run rfl
theorem dX1_run_259 : decode cX1_run 259 = .ok (.iconst 4, 1) := dq_7 dp_cX1_run rfl
theorem dX1_run_260 : decode cX1_run 260 = .ok (.iconst 0, 1) := dq_3 dp_cX1_run rfl
theorem dX1_run_261 : decode cX1_run 261 = .ok (.iload_n 3, 1) := dq_29 dp_cX1_run rfl
theorem dX1_run_262 : decode cX1_run 262 = .ok (.iload 6, 2) := dq_21 dp_cX1_run rfl
theorem dX1_run_264 : decode cX1_run 264 = .ok (.invokevirtual 34, 3) := dq_182 dp_cX1_run rfl
theorem dX1_run_267 : decode cX1_run 267 = .ok (.iconst 2, 1) := dq_5 dp_cX1_run rfl
theorem dX1_run_268 : decode cX1_run 268 = .ok (.imul, 1) := dq_104 dp_cX1_run rfl
theorem dX1_run_269 : decode cX1_run 269 = .ok (.ireturn, 1) := dq_172 dp_cX1_run rfl
theorem dX1_run_270 : decode cX1_run 270 = .ok (.aload_n 0, 1) := dq_42 dp_cX1_run rfl
theorem dX1_run_271 : decode cX1_run 271 = .ok (.iconst 4, 1) := dq_7 dp_cX1_run rfl
theorem dX1_run_272 : decode cX1_run 272 = .ok (.iconst 1, 1) := dq_4 dp_cX1_run rfl
theorem dX1_run_273 : decode cX1_run 273 = .ok (.iload_n 3, 1) := dq_29 dp_cX1_run rfl
theorem dX1_run_274 : decode cX1_run 274 = .ok (.aload_n 0, 1) := dq_42 dp_cX1_run rfl
theorem dX1_run_275 : decode cX1_run 275 = .ok (.getfield 25, 3) := dq_180 dp_cX1_run rfl
theorem dX1_run_278 : decode cX1_run 278 = .ok (.isub, 1) := dq_100 dp_cX1_run rfl
theorem dX1_run_279 : decode cX1_run 279 = .ok (.iload 6, 2) := dq_21 dp_cX1_run rfl
theorem dX1_run_281 : decode cX1_run 281 = .ok (.invokevirtual 34, 3) := dq_182 dp_cX1_run rfl
theorem dX1_run_284 : decode cX1_run 284 = .ok (.ireturn, 1) := dq_172 dp_cX1_run rfl
set_option maxRecDepth 20000 in
theorem ggX1_bodyFor_X7_within : GoodIn wsX1_bodyFor wsX7_within := (dg_c 3 rfl rfl dg_0)
set_option maxRecDepth 20000 in
theorem gX1_bodyFor_X7_within_n44 : GoodIn wsX1_bodyFor (wsX7_within) := ggX1_bodyFor_X7_within
set_option maxRecDepth 20000 in
theorem ggX1_bodyFor_X1_ownBody : GoodIn wsX1_bodyFor wsX1_ownBody := (dg_c 7 rfl rfl dg_0)
set_option maxRecDepth 20000 in
theorem gX1_bodyFor_X1_ownBody : GoodIn wsX1_bodyFor (va_wsS RX1 55 yX1_ownBody wsX1_ownBody) := goodIn_app (dg_c 4 rfl rfl (dg_c 5 rfl rfl (dg_c 6 rfl rfl dg_0))) ggX1_bodyFor_X1_ownBody
theorem dX1_bodyFor_0 : decode cX1_bodyFor 0 = .ok (.iload_n 0, 1) := dq_26 dp_cX1_bodyFor rfl
theorem dX1_bodyFor_1 : decode cX1_bodyFor 1 = .ok (.istore_n 2, 1) := dq_61 dp_cX1_bodyFor rfl
theorem dX1_bodyFor_2 : decode cX1_bodyFor 2 = .ok (.iconst 0, 1) := dq_3 dp_cX1_bodyFor rfl
theorem dX1_bodyFor_3 : decode cX1_bodyFor 3 = .ok (.istore_n 3, 1) := dq_62 dp_cX1_bodyFor rfl
theorem dX1_bodyFor_4 : decode cX1_bodyFor 4 = .ok (.iload_n 3, 1) := dq_29 dp_cX1_bodyFor rfl
theorem dX1_bodyFor_5 : decode cX1_bodyFor 5 = .ok (.bipush 7, 2) := dq_16 (v := 7) dp_cX1_bodyFor rfl rfl
theorem dX1_bodyFor_7 : decode cX1_bodyFor 7 = .ok (.if_icmp .ge 41, 3) := dq_162 (v := 41) dp_cX1_bodyFor rfl rfl
theorem dX1_bodyFor_10 : decode cX1_bodyFor 10 = .ok (.iload_n 2, 1) := dq_28 dp_cX1_bodyFor rfl
theorem dX1_bodyFor_11 : decode cX1_bodyFor 11 = .ok (.iconst 0, 1) := dq_3 dp_cX1_bodyFor rfl
theorem dX1_bodyFor_12 : decode cX1_bodyFor 12 = .ok (.bipush 6, 2) := dq_16 (v := 6) dp_cX1_bodyFor rfl rfl
theorem dX1_bodyFor_14 : decode cX1_bodyFor 14 = .ok (.invokestatic 44, 3) := dq_184 dp_cX1_bodyFor rfl
theorem dX1_bodyFor_17 : decode cX1_bodyFor 17 = .ok (.ifCond .eq 31, 3) := dq_153 (v := 31) dp_cX1_bodyFor rfl rfl
theorem dX1_bodyFor_20 : decode cX1_bodyFor 20 = .ok (.iload_n 2, 1) := dq_28 dp_cX1_bodyFor rfl
theorem dX1_bodyFor_21 : decode cX1_bodyFor 21 = .ok (.iload_n 1, 1) := dq_27 dp_cX1_bodyFor rfl
theorem dX1_bodyFor_22 : decode cX1_bodyFor 22 = .ok (.invokestatic 55, 3) := dq_184 dp_cX1_bodyFor rfl
theorem dX1_bodyFor_25 : decode cX1_bodyFor 25 = .ok (.istore 4, 2) := dq_54 dp_cX1_bodyFor rfl
theorem dX1_bodyFor_27 : decode cX1_bodyFor 27 = .ok (.iload 4, 2) := dq_21 dp_cX1_bodyFor rfl
theorem dX1_bodyFor_29 : decode cX1_bodyFor 29 = .ok (.iconst (-1), 1) := dq_2 dp_cX1_bodyFor rfl
theorem dX1_bodyFor_30 : decode cX1_bodyFor 30 = .ok (.if_icmp .eq 6, 3) := dq_159 (v := 6) dp_cX1_bodyFor rfl rfl
theorem dX1_bodyFor_33 : decode cX1_bodyFor 33 = .ok (.iload 4, 2) := dq_21 dp_cX1_bodyFor rfl
theorem dX1_bodyFor_35 : decode cX1_bodyFor 35 = .ok (.ireturn, 1) := dq_172 dp_cX1_bodyFor rfl
theorem dX1_bodyFor_36 : decode cX1_bodyFor 36 = .ok (.getstatic 58, 3) := dq_178 dp_cX1_bodyFor rfl
theorem dX1_bodyFor_39 : decode cX1_bodyFor 39 = .ok (.iload_n 2, 1) := dq_28 dp_cX1_bodyFor rfl
theorem dX1_bodyFor_40 : decode cX1_bodyFor 40 = .ok (.iaload, 1) := dq_46 dp_cX1_bodyFor rfl
theorem dX1_bodyFor_41 : decode cX1_bodyFor 41 = .ok (.istore_n 2, 1) := dq_61 dp_cX1_bodyFor rfl
theorem dX1_bodyFor_42 : decode cX1_bodyFor 42 = .ok (.iinc 3 1, 3) := dq_132 (v := 1) dp_cX1_bodyFor rfl (by decide) rfl
theorem dX1_bodyFor_45 : decode cX1_bodyFor 45 = .ok (.goto (-41), 3) := dq_167 (v := 65495) dp_cX1_bodyFor rfl rfl
end
section
set_option maxHeartbeats 4000000 in
set_option maxRecDepth 100000 in
theorem c_M_own_0_0 (l : Launch) (D : va_G) (cI cJ cZ cP cS : ClassId) (po : zPool)   : Met l yX1_ownBody wsX1_ownBody ({ frames := 0, cells := 0, slots := 0, locals := 0 }) (va_Pc [.int 0, .int 0] (zR D (zKT cI cJ cZ cP cS) po [])) (vp_Si (fun r => r = 10)) 0 0 (fun _ => False) := by
  refine Met.ofW (cc := cX1_ownBody) (maxL := 2) (ret := (some .int)) (by decide) rfl ?_
  intro p e s m args below meth c s₁ B hml hv
  obtain ⟨rfl, hP, hK, hN, hZ⟩ := hv
  have hx := B.exec
  have hb := B.bytes
  have hr := B.returns
  have hts := atoms_spec (ws := wsX1_ownBody) B.pre
  have hown : s.vm.findClass RX1 = some m.cls := findClass_of_methodNamed B.named
  have hlocks := B.notSynchronized
  have hl := lv_entry ([.int 0, .int 0]) (n := 2) (Nat.le_of_ble_eq_true rfl)
  rw [lg_entry_eq]
  generalize (lg_sl ([.int 0, .int 0]) ++ List.replicate (2 - (lg_sl ([.int 0, .int 0])).length) Slot.unset).toArray = ls at hl ⊢
  replace hl : lv_has ls 2 [(0, .int 0), (1, .int 0)] := hl
  refine lv_iload_n hx hb dX1_ownBody_0 rfl (lv_at hl 0 rfl) ?_
  refine lv_tableIn (tgt := 40) hx hb dX1_ownBody_1 (by decide) (by decide) rfl (by decide) ?_
  refine lv_bipush (v := 10) hx hb dX1_ownBody_40 (by decide) ?_
  refine lv_iload_n hx hb dX1_ownBody_42 rfl (lv_at hl 1 rfl) ?_
  refine lv_iadd hx hb dX1_ownBody_43 ?_
  refine lv_topi (fun y_1 ey_1 => ?_)
  obtain rfl : y_1 = 10 := ey_1.trans (by decide)
  exact W.iret (v := 10) hx hb hr (fun t ht hW => ⟨10, rfl, rfl, ht⟩) (fun q hq => by cases hq) dX1_ownBody_44
set_option maxHeartbeats 4000000 in
set_option maxRecDepth 100000 in
theorem c_M_own_0_1 (l : Launch) (D : va_G) (cI cJ cZ cP cS : ClassId) (po : zPool)   : Met l yX1_ownBody wsX1_ownBody ({ frames := 0, cells := 0, slots := 0, locals := 0 }) (va_Pc [.int 0, .int 1] (zR D (zKT cI cJ cZ cP cS) po [])) (vp_Si (fun r => r = 11)) 0 0 (fun _ => False) := by
  refine Met.ofW (cc := cX1_ownBody) (maxL := 2) (ret := (some .int)) (by decide) rfl ?_
  intro p e s m args below meth c s₁ B hml hv
  obtain ⟨rfl, hP, hK, hN, hZ⟩ := hv
  have hx := B.exec
  have hb := B.bytes
  have hr := B.returns
  have hts := atoms_spec (ws := wsX1_ownBody) B.pre
  have hown : s.vm.findClass RX1 = some m.cls := findClass_of_methodNamed B.named
  have hlocks := B.notSynchronized
  have hl := lv_entry ([.int 0, .int 1]) (n := 2) (Nat.le_of_ble_eq_true rfl)
  rw [lg_entry_eq]
  generalize (lg_sl ([.int 0, .int 1]) ++ List.replicate (2 - (lg_sl ([.int 0, .int 1])).length) Slot.unset).toArray = ls at hl ⊢
  replace hl : lv_has ls 2 [(0, .int 0), (1, .int 1)] := hl
  refine lv_iload_n hx hb dX1_ownBody_0 rfl (lv_at hl 0 rfl) ?_
  refine lv_tableIn (tgt := 40) hx hb dX1_ownBody_1 (by decide) (by decide) rfl (by decide) ?_
  refine lv_bipush (v := 10) hx hb dX1_ownBody_40 (by decide) ?_
  refine lv_iload_n hx hb dX1_ownBody_42 rfl (lv_at hl 1 rfl) ?_
  refine lv_iadd hx hb dX1_ownBody_43 ?_
  refine lv_topi (fun y_1 ey_1 => ?_)
  obtain rfl : y_1 = 11 := ey_1.trans (by decide)
  exact W.iret (v := 11) hx hb hr (fun t ht hW => ⟨11, rfl, rfl, ht⟩) (fun q hq => by cases hq) dX1_ownBody_44
set_option maxHeartbeats 4000000 in
set_option maxRecDepth 100000 in
theorem c_M_own_0_2 (l : Launch) (D : va_G) (cI cJ cZ cP cS : ClassId) (po : zPool)   : Met l yX1_ownBody wsX1_ownBody ({ frames := 0, cells := 0, slots := 0, locals := 0 }) (va_Pc [.int 0, .int 2] (zR D (zKT cI cJ cZ cP cS) po [])) (vp_Si (fun r => r = 12)) 0 0 (fun _ => False) := by
  refine Met.ofW (cc := cX1_ownBody) (maxL := 2) (ret := (some .int)) (by decide) rfl ?_
  intro p e s m args below meth c s₁ B hml hv
  obtain ⟨rfl, hP, hK, hN, hZ⟩ := hv
  have hx := B.exec
  have hb := B.bytes
  have hr := B.returns
  have hts := atoms_spec (ws := wsX1_ownBody) B.pre
  have hown : s.vm.findClass RX1 = some m.cls := findClass_of_methodNamed B.named
  have hlocks := B.notSynchronized
  have hl := lv_entry ([.int 0, .int 2]) (n := 2) (Nat.le_of_ble_eq_true rfl)
  rw [lg_entry_eq]
  generalize (lg_sl ([.int 0, .int 2]) ++ List.replicate (2 - (lg_sl ([.int 0, .int 2])).length) Slot.unset).toArray = ls at hl ⊢
  replace hl : lv_has ls 2 [(0, .int 0), (1, .int 2)] := hl
  refine lv_iload_n hx hb dX1_ownBody_0 rfl (lv_at hl 0 rfl) ?_
  refine lv_tableIn (tgt := 40) hx hb dX1_ownBody_1 (by decide) (by decide) rfl (by decide) ?_
  refine lv_bipush (v := 10) hx hb dX1_ownBody_40 (by decide) ?_
  refine lv_iload_n hx hb dX1_ownBody_42 rfl (lv_at hl 1 rfl) ?_
  refine lv_iadd hx hb dX1_ownBody_43 ?_
  refine lv_topi (fun y_1 ey_1 => ?_)
  obtain rfl : y_1 = 12 := ey_1.trans (by decide)
  exact W.iret (v := 12) hx hb hr (fun t ht hW => ⟨12, rfl, rfl, ht⟩) (fun q hq => by cases hq) dX1_ownBody_44
set_option maxHeartbeats 4000000 in
set_option maxRecDepth 100000 in
theorem c_M_own_1_0 (l : Launch) (D : va_G) (cI cJ cZ cP cS : ClassId) (po : zPool)   : Met l yX1_ownBody wsX1_ownBody ({ frames := 0, cells := 0, slots := 0, locals := 0 }) (va_Pc [.int 1, .int 0] (zR D (zKT cI cJ cZ cP cS) po [])) (vp_Si (fun r => r = 20)) 0 0 (fun _ => False) := by
  refine Met.ofW (cc := cX1_ownBody) (maxL := 2) (ret := (some .int)) (by decide) rfl ?_
  intro p e s m args below meth c s₁ B hml hv
  obtain ⟨rfl, hP, hK, hN, hZ⟩ := hv
  have hx := B.exec
  have hb := B.bytes
  have hr := B.returns
  have hts := atoms_spec (ws := wsX1_ownBody) B.pre
  have hown : s.vm.findClass RX1 = some m.cls := findClass_of_methodNamed B.named
  have hlocks := B.notSynchronized
  have hl := lv_entry ([.int 1, .int 0]) (n := 2) (Nat.le_of_ble_eq_true rfl)
  rw [lg_entry_eq]
  generalize (lg_sl ([.int 1, .int 0]) ++ List.replicate (2 - (lg_sl ([.int 1, .int 0])).length) Slot.unset).toArray = ls at hl ⊢
  replace hl : lv_has ls 2 [(0, .int 1), (1, .int 0)] := hl
  refine lv_iload_n hx hb dX1_ownBody_0 rfl (lv_at hl 0 rfl) ?_
  refine lv_tableIn (tgt := 45) hx hb dX1_ownBody_1 (by decide) (by decide) rfl (by decide) ?_
  refine lv_iload_n hx hb dX1_ownBody_45 rfl (lv_at hl 1 rfl) ?_
  refine lv_if_ne (tgt := 54) hx hb dX1_ownBody_46 (by decide) (fun c_1 => ?_) (fun c_1 => ?_)
  · exact absurd c_1 (by decide)
  · refine lv_bipush (v := 20) hx hb dX1_ownBody_49 (by decide) ?_
    refine lv_goto (tgt := 55) hx hb dX1_ownBody_51 (by decide) ?_
    exact W.iret (v := 20) hx hb hr (fun t ht hW => ⟨20, rfl, rfl, ht⟩) (fun q hq => by cases hq) dX1_ownBody_55
set_option maxHeartbeats 4000000 in
set_option maxRecDepth 100000 in
theorem c_M_own_1_1 (l : Launch) (D : va_G) (cI cJ cZ cP cS : ClassId) (po : zPool)   : Met l yX1_ownBody wsX1_ownBody ({ frames := 0, cells := 0, slots := 0, locals := 0 }) (va_Pc [.int 1, .int 1] (zR D (zKT cI cJ cZ cP cS) po [])) (vp_Si (fun r => r = (-1))) 0 0 (fun _ => False) := by
  refine Met.ofW (cc := cX1_ownBody) (maxL := 2) (ret := (some .int)) (by decide) rfl ?_
  intro p e s m args below meth c s₁ B hml hv
  obtain ⟨rfl, hP, hK, hN, hZ⟩ := hv
  have hx := B.exec
  have hb := B.bytes
  have hr := B.returns
  have hts := atoms_spec (ws := wsX1_ownBody) B.pre
  have hown : s.vm.findClass RX1 = some m.cls := findClass_of_methodNamed B.named
  have hlocks := B.notSynchronized
  have hl := lv_entry ([.int 1, .int 1]) (n := 2) (Nat.le_of_ble_eq_true rfl)
  rw [lg_entry_eq]
  generalize (lg_sl ([.int 1, .int 1]) ++ List.replicate (2 - (lg_sl ([.int 1, .int 1])).length) Slot.unset).toArray = ls at hl ⊢
  replace hl : lv_has ls 2 [(0, .int 1), (1, .int 1)] := hl
  refine lv_iload_n hx hb dX1_ownBody_0 rfl (lv_at hl 0 rfl) ?_
  refine lv_tableIn (tgt := 45) hx hb dX1_ownBody_1 (by decide) (by decide) rfl (by decide) ?_
  refine lv_iload_n hx hb dX1_ownBody_45 rfl (lv_at hl 1 rfl) ?_
  refine lv_if_ne (tgt := 54) hx hb dX1_ownBody_46 (by decide) (fun c_1 => ?_) (fun c_1 => ?_)
  · refine lv_iconst (v := (-1)) hx hb dX1_ownBody_54 (by decide) ?_
    exact W.iret (v := (-1)) hx hb hr (fun t ht hW => ⟨(-1), rfl, rfl, ht⟩) (fun q hq => by cases hq) dX1_ownBody_55
  · exact absurd c_1 (by decide)
set_option maxHeartbeats 4000000 in
set_option maxRecDepth 100000 in
theorem c_M_own_1_2 (l : Launch) (D : va_G) (cI cJ cZ cP cS : ClassId) (po : zPool)   : Met l yX1_ownBody wsX1_ownBody ({ frames := 0, cells := 0, slots := 0, locals := 0 }) (va_Pc [.int 1, .int 2] (zR D (zKT cI cJ cZ cP cS) po [])) (vp_Si (fun r => r = (-1))) 0 0 (fun _ => False) := by
  refine Met.ofW (cc := cX1_ownBody) (maxL := 2) (ret := (some .int)) (by decide) rfl ?_
  intro p e s m args below meth c s₁ B hml hv
  obtain ⟨rfl, hP, hK, hN, hZ⟩ := hv
  have hx := B.exec
  have hb := B.bytes
  have hr := B.returns
  have hts := atoms_spec (ws := wsX1_ownBody) B.pre
  have hown : s.vm.findClass RX1 = some m.cls := findClass_of_methodNamed B.named
  have hlocks := B.notSynchronized
  have hl := lv_entry ([.int 1, .int 2]) (n := 2) (Nat.le_of_ble_eq_true rfl)
  rw [lg_entry_eq]
  generalize (lg_sl ([.int 1, .int 2]) ++ List.replicate (2 - (lg_sl ([.int 1, .int 2])).length) Slot.unset).toArray = ls at hl ⊢
  replace hl : lv_has ls 2 [(0, .int 1), (1, .int 2)] := hl
  refine lv_iload_n hx hb dX1_ownBody_0 rfl (lv_at hl 0 rfl) ?_
  refine lv_tableIn (tgt := 45) hx hb dX1_ownBody_1 (by decide) (by decide) rfl (by decide) ?_
  refine lv_iload_n hx hb dX1_ownBody_45 rfl (lv_at hl 1 rfl) ?_
  refine lv_if_ne (tgt := 54) hx hb dX1_ownBody_46 (by decide) (fun c_1 => ?_) (fun c_1 => ?_)
  · refine lv_iconst (v := (-1)) hx hb dX1_ownBody_54 (by decide) ?_
    exact W.iret (v := (-1)) hx hb hr (fun t ht hW => ⟨(-1), rfl, rfl, ht⟩) (fun q hq => by cases hq) dX1_ownBody_55
  · exact absurd c_1 (by decide)
set_option maxHeartbeats 4000000 in
set_option maxRecDepth 100000 in
theorem c_M_own_2_0 (l : Launch) (D : va_G) (cI cJ cZ cP cS : ClassId) (po : zPool)   : Met l yX1_ownBody wsX1_ownBody ({ frames := 0, cells := 0, slots := 0, locals := 0 }) (va_Pc [.int 2, .int 0] (zR D (zKT cI cJ cZ cP cS) po [])) (vp_Si (fun r => r = (-1))) 0 0 (fun _ => False) := by
  refine Met.ofW (cc := cX1_ownBody) (maxL := 2) (ret := (some .int)) (by decide) rfl ?_
  intro p e s m args below meth c s₁ B hml hv
  obtain ⟨rfl, hP, hK, hN, hZ⟩ := hv
  have hx := B.exec
  have hb := B.bytes
  have hr := B.returns
  have hts := atoms_spec (ws := wsX1_ownBody) B.pre
  have hown : s.vm.findClass RX1 = some m.cls := findClass_of_methodNamed B.named
  have hlocks := B.notSynchronized
  have hl := lv_entry ([.int 2, .int 0]) (n := 2) (Nat.le_of_ble_eq_true rfl)
  rw [lg_entry_eq]
  generalize (lg_sl ([.int 2, .int 0]) ++ List.replicate (2 - (lg_sl ([.int 2, .int 0])).length) Slot.unset).toArray = ls at hl ⊢
  replace hl : lv_has ls 2 [(0, .int 2), (1, .int 0)] := hl
  refine lv_iload_n hx hb dX1_ownBody_0 rfl (lv_at hl 0 rfl) ?_
  refine lv_tableIn (tgt := 56) hx hb dX1_ownBody_1 (by decide) (by decide) rfl (by decide) ?_
  refine lv_iload_n hx hb dX1_ownBody_56 rfl (lv_at hl 1 rfl) ?_
  refine lv_iconst (v := 1) hx hb dX1_ownBody_57 (by decide) ?_
  refine lv_icmp_ne (tgt := 66) hx hb dX1_ownBody_58 (by decide) (fun c_1 => ?_) (fun c_1 => ?_)
  · refine lv_iconst (v := (-1)) hx hb dX1_ownBody_66 (by decide) ?_
    exact W.iret (v := (-1)) hx hb hr (fun t ht hW => ⟨(-1), rfl, rfl, ht⟩) (fun q hq => by cases hq) dX1_ownBody_67
  · exact absurd c_1 (by decide)
set_option maxHeartbeats 4000000 in
set_option maxRecDepth 100000 in
theorem c_M_own_2_1 (l : Launch) (D : va_G) (cI cJ cZ cP cS : ClassId) (po : zPool)   : Met l yX1_ownBody wsX1_ownBody ({ frames := 0, cells := 0, slots := 0, locals := 0 }) (va_Pc [.int 2, .int 1] (zR D (zKT cI cJ cZ cP cS) po [])) (vp_Si (fun r => r = 30)) 0 0 (fun _ => False) := by
  refine Met.ofW (cc := cX1_ownBody) (maxL := 2) (ret := (some .int)) (by decide) rfl ?_
  intro p e s m args below meth c s₁ B hml hv
  obtain ⟨rfl, hP, hK, hN, hZ⟩ := hv
  have hx := B.exec
  have hb := B.bytes
  have hr := B.returns
  have hts := atoms_spec (ws := wsX1_ownBody) B.pre
  have hown : s.vm.findClass RX1 = some m.cls := findClass_of_methodNamed B.named
  have hlocks := B.notSynchronized
  have hl := lv_entry ([.int 2, .int 1]) (n := 2) (Nat.le_of_ble_eq_true rfl)
  rw [lg_entry_eq]
  generalize (lg_sl ([.int 2, .int 1]) ++ List.replicate (2 - (lg_sl ([.int 2, .int 1])).length) Slot.unset).toArray = ls at hl ⊢
  replace hl : lv_has ls 2 [(0, .int 2), (1, .int 1)] := hl
  refine lv_iload_n hx hb dX1_ownBody_0 rfl (lv_at hl 0 rfl) ?_
  refine lv_tableIn (tgt := 56) hx hb dX1_ownBody_1 (by decide) (by decide) rfl (by decide) ?_
  refine lv_iload_n hx hb dX1_ownBody_56 rfl (lv_at hl 1 rfl) ?_
  refine lv_iconst (v := 1) hx hb dX1_ownBody_57 (by decide) ?_
  refine lv_icmp_ne (tgt := 66) hx hb dX1_ownBody_58 (by decide) (fun c_1 => ?_) (fun c_1 => ?_)
  · exact absurd c_1 (by decide)
  · refine lv_bipush (v := 30) hx hb dX1_ownBody_61 (by decide) ?_
    refine lv_goto (tgt := 67) hx hb dX1_ownBody_63 (by decide) ?_
    exact W.iret (v := 30) hx hb hr (fun t ht hW => ⟨30, rfl, rfl, ht⟩) (fun q hq => by cases hq) dX1_ownBody_67
set_option maxHeartbeats 4000000 in
set_option maxRecDepth 100000 in
theorem c_M_own_2_2 (l : Launch) (D : va_G) (cI cJ cZ cP cS : ClassId) (po : zPool)   : Met l yX1_ownBody wsX1_ownBody ({ frames := 0, cells := 0, slots := 0, locals := 0 }) (va_Pc [.int 2, .int 2] (zR D (zKT cI cJ cZ cP cS) po [])) (vp_Si (fun r => r = (-1))) 0 0 (fun _ => False) := by
  refine Met.ofW (cc := cX1_ownBody) (maxL := 2) (ret := (some .int)) (by decide) rfl ?_
  intro p e s m args below meth c s₁ B hml hv
  obtain ⟨rfl, hP, hK, hN, hZ⟩ := hv
  have hx := B.exec
  have hb := B.bytes
  have hr := B.returns
  have hts := atoms_spec (ws := wsX1_ownBody) B.pre
  have hown : s.vm.findClass RX1 = some m.cls := findClass_of_methodNamed B.named
  have hlocks := B.notSynchronized
  have hl := lv_entry ([.int 2, .int 2]) (n := 2) (Nat.le_of_ble_eq_true rfl)
  rw [lg_entry_eq]
  generalize (lg_sl ([.int 2, .int 2]) ++ List.replicate (2 - (lg_sl ([.int 2, .int 2])).length) Slot.unset).toArray = ls at hl ⊢
  replace hl : lv_has ls 2 [(0, .int 2), (1, .int 2)] := hl
  refine lv_iload_n hx hb dX1_ownBody_0 rfl (lv_at hl 0 rfl) ?_
  refine lv_tableIn (tgt := 56) hx hb dX1_ownBody_1 (by decide) (by decide) rfl (by decide) ?_
  refine lv_iload_n hx hb dX1_ownBody_56 rfl (lv_at hl 1 rfl) ?_
  refine lv_iconst (v := 1) hx hb dX1_ownBody_57 (by decide) ?_
  refine lv_icmp_ne (tgt := 66) hx hb dX1_ownBody_58 (by decide) (fun c_1 => ?_) (fun c_1 => ?_)
  · refine lv_iconst (v := (-1)) hx hb dX1_ownBody_66 (by decide) ?_
    exact W.iret (v := (-1)) hx hb hr (fun t ht hW => ⟨(-1), rfl, rfl, ht⟩) (fun q hq => by cases hq) dX1_ownBody_67
  · exact absurd c_1 (by decide)
set_option maxHeartbeats 4000000 in
set_option maxRecDepth 100000 in
theorem c_M_own_3_0 (l : Launch) (D : va_G) (cI cJ cZ cP cS : ClassId) (po : zPool)   : Met l yX1_ownBody wsX1_ownBody ({ frames := 0, cells := 0, slots := 0, locals := 0 }) (va_Pc [.int 3, .int 0] (zR D (zKT cI cJ cZ cP cS) po [])) (vp_Si (fun r => r = (-1))) 0 0 (fun _ => False) := by
  refine Met.ofW (cc := cX1_ownBody) (maxL := 2) (ret := (some .int)) (by decide) rfl ?_
  intro p e s m args below meth c s₁ B hml hv
  obtain ⟨rfl, hP, hK, hN, hZ⟩ := hv
  have hx := B.exec
  have hb := B.bytes
  have hr := B.returns
  have hts := atoms_spec (ws := wsX1_ownBody) B.pre
  have hown : s.vm.findClass RX1 = some m.cls := findClass_of_methodNamed B.named
  have hlocks := B.notSynchronized
  have hl := lv_entry ([.int 3, .int 0]) (n := 2) (Nat.le_of_ble_eq_true rfl)
  rw [lg_entry_eq]
  generalize (lg_sl ([.int 3, .int 0]) ++ List.replicate (2 - (lg_sl ([.int 3, .int 0])).length) Slot.unset).toArray = ls at hl ⊢
  replace hl : lv_has ls 2 [(0, .int 3), (1, .int 0)] := hl
  refine lv_iload_n hx hb dX1_ownBody_0 rfl (lv_at hl 0 rfl) ?_
  refine lv_tableIn (tgt := 68) hx hb dX1_ownBody_1 (by decide) (by decide) rfl (by decide) ?_
  refine lv_iload_n hx hb dX1_ownBody_68 rfl (lv_at hl 1 rfl) ?_
  refine lv_iconst (v := 1) hx hb dX1_ownBody_69 (by decide) ?_
  refine lv_icmp_ne (tgt := 78) hx hb dX1_ownBody_70 (by decide) (fun c_1 => ?_) (fun c_1 => ?_)
  · refine lv_iconst (v := (-1)) hx hb dX1_ownBody_78 (by decide) ?_
    exact W.iret (v := (-1)) hx hb hr (fun t ht hW => ⟨(-1), rfl, rfl, ht⟩) (fun q hq => by cases hq) dX1_ownBody_79
  · exact absurd c_1 (by decide)
set_option maxHeartbeats 4000000 in
set_option maxRecDepth 100000 in
theorem c_M_own_3_1 (l : Launch) (D : va_G) (cI cJ cZ cP cS : ClassId) (po : zPool)   : Met l yX1_ownBody wsX1_ownBody ({ frames := 0, cells := 0, slots := 0, locals := 0 }) (va_Pc [.int 3, .int 1] (zR D (zKT cI cJ cZ cP cS) po [])) (vp_Si (fun r => r = 40)) 0 0 (fun _ => False) := by
  refine Met.ofW (cc := cX1_ownBody) (maxL := 2) (ret := (some .int)) (by decide) rfl ?_
  intro p e s m args below meth c s₁ B hml hv
  obtain ⟨rfl, hP, hK, hN, hZ⟩ := hv
  have hx := B.exec
  have hb := B.bytes
  have hr := B.returns
  have hts := atoms_spec (ws := wsX1_ownBody) B.pre
  have hown : s.vm.findClass RX1 = some m.cls := findClass_of_methodNamed B.named
  have hlocks := B.notSynchronized
  have hl := lv_entry ([.int 3, .int 1]) (n := 2) (Nat.le_of_ble_eq_true rfl)
  rw [lg_entry_eq]
  generalize (lg_sl ([.int 3, .int 1]) ++ List.replicate (2 - (lg_sl ([.int 3, .int 1])).length) Slot.unset).toArray = ls at hl ⊢
  replace hl : lv_has ls 2 [(0, .int 3), (1, .int 1)] := hl
  refine lv_iload_n hx hb dX1_ownBody_0 rfl (lv_at hl 0 rfl) ?_
  refine lv_tableIn (tgt := 68) hx hb dX1_ownBody_1 (by decide) (by decide) rfl (by decide) ?_
  refine lv_iload_n hx hb dX1_ownBody_68 rfl (lv_at hl 1 rfl) ?_
  refine lv_iconst (v := 1) hx hb dX1_ownBody_69 (by decide) ?_
  refine lv_icmp_ne (tgt := 78) hx hb dX1_ownBody_70 (by decide) (fun c_1 => ?_) (fun c_1 => ?_)
  · exact absurd c_1 (by decide)
  · refine lv_bipush (v := 40) hx hb dX1_ownBody_73 (by decide) ?_
    refine lv_goto (tgt := 79) hx hb dX1_ownBody_75 (by decide) ?_
    exact W.iret (v := 40) hx hb hr (fun t ht hW => ⟨40, rfl, rfl, ht⟩) (fun q hq => by cases hq) dX1_ownBody_79
set_option maxHeartbeats 4000000 in
set_option maxRecDepth 100000 in
theorem c_M_own_3_2 (l : Launch) (D : va_G) (cI cJ cZ cP cS : ClassId) (po : zPool)   : Met l yX1_ownBody wsX1_ownBody ({ frames := 0, cells := 0, slots := 0, locals := 0 }) (va_Pc [.int 3, .int 2] (zR D (zKT cI cJ cZ cP cS) po [])) (vp_Si (fun r => r = (-1))) 0 0 (fun _ => False) := by
  refine Met.ofW (cc := cX1_ownBody) (maxL := 2) (ret := (some .int)) (by decide) rfl ?_
  intro p e s m args below meth c s₁ B hml hv
  obtain ⟨rfl, hP, hK, hN, hZ⟩ := hv
  have hx := B.exec
  have hb := B.bytes
  have hr := B.returns
  have hts := atoms_spec (ws := wsX1_ownBody) B.pre
  have hown : s.vm.findClass RX1 = some m.cls := findClass_of_methodNamed B.named
  have hlocks := B.notSynchronized
  have hl := lv_entry ([.int 3, .int 2]) (n := 2) (Nat.le_of_ble_eq_true rfl)
  rw [lg_entry_eq]
  generalize (lg_sl ([.int 3, .int 2]) ++ List.replicate (2 - (lg_sl ([.int 3, .int 2])).length) Slot.unset).toArray = ls at hl ⊢
  replace hl : lv_has ls 2 [(0, .int 3), (1, .int 2)] := hl
  refine lv_iload_n hx hb dX1_ownBody_0 rfl (lv_at hl 0 rfl) ?_
  refine lv_tableIn (tgt := 68) hx hb dX1_ownBody_1 (by decide) (by decide) rfl (by decide) ?_
  refine lv_iload_n hx hb dX1_ownBody_68 rfl (lv_at hl 1 rfl) ?_
  refine lv_iconst (v := 1) hx hb dX1_ownBody_69 (by decide) ?_
  refine lv_icmp_ne (tgt := 78) hx hb dX1_ownBody_70 (by decide) (fun c_1 => ?_) (fun c_1 => ?_)
  · refine lv_iconst (v := (-1)) hx hb dX1_ownBody_78 (by decide) ?_
    exact W.iret (v := (-1)) hx hb hr (fun t ht hW => ⟨(-1), rfl, rfl, ht⟩) (fun q hq => by cases hq) dX1_ownBody_79
  · exact absurd c_1 (by decide)
set_option maxHeartbeats 4000000 in
set_option maxRecDepth 100000 in
theorem c_M_own_4_0 (l : Launch) (D : va_G) (cI cJ cZ cP cS : ClassId) (po : zPool)   : Met l yX1_ownBody wsX1_ownBody ({ frames := 0, cells := 0, slots := 0, locals := 0 }) (va_Pc [.int 4, .int 0] (zR D (zKT cI cJ cZ cP cS) po [])) (vp_Si (fun r => r = 51)) 0 0 (fun _ => False) := by
  refine Met.ofW (cc := cX1_ownBody) (maxL := 2) (ret := (some .int)) (by decide) rfl ?_
  intro p e s m args below meth c s₁ B hml hv
  obtain ⟨rfl, hP, hK, hN, hZ⟩ := hv
  have hx := B.exec
  have hb := B.bytes
  have hr := B.returns
  have hts := atoms_spec (ws := wsX1_ownBody) B.pre
  have hown : s.vm.findClass RX1 = some m.cls := findClass_of_methodNamed B.named
  have hlocks := B.notSynchronized
  have hl := lv_entry ([.int 4, .int 0]) (n := 2) (Nat.le_of_ble_eq_true rfl)
  rw [lg_entry_eq]
  generalize (lg_sl ([.int 4, .int 0]) ++ List.replicate (2 - (lg_sl ([.int 4, .int 0])).length) Slot.unset).toArray = ls at hl ⊢
  replace hl : lv_has ls 2 [(0, .int 4), (1, .int 0)] := hl
  refine lv_iload_n hx hb dX1_ownBody_0 rfl (lv_at hl 0 rfl) ?_
  refine lv_tableIn (tgt := 80) hx hb dX1_ownBody_1 (by decide) (by decide) rfl (by decide) ?_
  refine lv_iload_n hx hb dX1_ownBody_80 rfl (lv_at hl 1 rfl) ?_
  refine lv_iconst (v := 2) hx hb dX1_ownBody_81 (by decide) ?_
  refine lv_icmp_ne (tgt := 90) hx hb dX1_ownBody_82 (by decide) (fun c_1 => ?_) (fun c_1 => ?_)
  · refine lv_iload_n hx hb dX1_ownBody_90 rfl (lv_at hl 1 rfl) ?_
    refine lv_if_ne (tgt := 99) hx hb dX1_ownBody_91 (by decide) (fun c_2 => ?_) (fun c_2 => ?_)
    · exact absurd c_2 (by decide)
    · refine lv_bipush (v := 51) hx hb dX1_ownBody_94 (by decide) ?_
      refine lv_goto (tgt := 100) hx hb dX1_ownBody_96 (by decide) ?_
      exact W.iret (v := 51) hx hb hr (fun t ht hW => ⟨51, rfl, rfl, ht⟩) (fun q hq => by cases hq) dX1_ownBody_100
  · exact absurd c_1 (by decide)
set_option maxHeartbeats 4000000 in
set_option maxRecDepth 100000 in
theorem c_M_own_4_1 (l : Launch) (D : va_G) (cI cJ cZ cP cS : ClassId) (po : zPool)   : Met l yX1_ownBody wsX1_ownBody ({ frames := 0, cells := 0, slots := 0, locals := 0 }) (va_Pc [.int 4, .int 1] (zR D (zKT cI cJ cZ cP cS) po [])) (vp_Si (fun r => r = (-1))) 0 0 (fun _ => False) := by
  refine Met.ofW (cc := cX1_ownBody) (maxL := 2) (ret := (some .int)) (by decide) rfl ?_
  intro p e s m args below meth c s₁ B hml hv
  obtain ⟨rfl, hP, hK, hN, hZ⟩ := hv
  have hx := B.exec
  have hb := B.bytes
  have hr := B.returns
  have hts := atoms_spec (ws := wsX1_ownBody) B.pre
  have hown : s.vm.findClass RX1 = some m.cls := findClass_of_methodNamed B.named
  have hlocks := B.notSynchronized
  have hl := lv_entry ([.int 4, .int 1]) (n := 2) (Nat.le_of_ble_eq_true rfl)
  rw [lg_entry_eq]
  generalize (lg_sl ([.int 4, .int 1]) ++ List.replicate (2 - (lg_sl ([.int 4, .int 1])).length) Slot.unset).toArray = ls at hl ⊢
  replace hl : lv_has ls 2 [(0, .int 4), (1, .int 1)] := hl
  refine lv_iload_n hx hb dX1_ownBody_0 rfl (lv_at hl 0 rfl) ?_
  refine lv_tableIn (tgt := 80) hx hb dX1_ownBody_1 (by decide) (by decide) rfl (by decide) ?_
  refine lv_iload_n hx hb dX1_ownBody_80 rfl (lv_at hl 1 rfl) ?_
  refine lv_iconst (v := 2) hx hb dX1_ownBody_81 (by decide) ?_
  refine lv_icmp_ne (tgt := 90) hx hb dX1_ownBody_82 (by decide) (fun c_1 => ?_) (fun c_1 => ?_)
  · refine lv_iload_n hx hb dX1_ownBody_90 rfl (lv_at hl 1 rfl) ?_
    refine lv_if_ne (tgt := 99) hx hb dX1_ownBody_91 (by decide) (fun c_2 => ?_) (fun c_2 => ?_)
    · refine lv_iconst (v := (-1)) hx hb dX1_ownBody_99 (by decide) ?_
      exact W.iret (v := (-1)) hx hb hr (fun t ht hW => ⟨(-1), rfl, rfl, ht⟩) (fun q hq => by cases hq) dX1_ownBody_100
    · exact absurd c_2 (by decide)
  · exact absurd c_1 (by decide)
set_option maxHeartbeats 4000000 in
set_option maxRecDepth 100000 in
theorem c_M_own_4_2 (l : Launch) (D : va_G) (cI cJ cZ cP cS : ClassId) (po : zPool)   : Met l yX1_ownBody wsX1_ownBody ({ frames := 0, cells := 0, slots := 0, locals := 0 }) (va_Pc [.int 4, .int 2] (zR D (zKT cI cJ cZ cP cS) po [])) (vp_Si (fun r => r = 50)) 0 0 (fun _ => False) := by
  refine Met.ofW (cc := cX1_ownBody) (maxL := 2) (ret := (some .int)) (by decide) rfl ?_
  intro p e s m args below meth c s₁ B hml hv
  obtain ⟨rfl, hP, hK, hN, hZ⟩ := hv
  have hx := B.exec
  have hb := B.bytes
  have hr := B.returns
  have hts := atoms_spec (ws := wsX1_ownBody) B.pre
  have hown : s.vm.findClass RX1 = some m.cls := findClass_of_methodNamed B.named
  have hlocks := B.notSynchronized
  have hl := lv_entry ([.int 4, .int 2]) (n := 2) (Nat.le_of_ble_eq_true rfl)
  rw [lg_entry_eq]
  generalize (lg_sl ([.int 4, .int 2]) ++ List.replicate (2 - (lg_sl ([.int 4, .int 2])).length) Slot.unset).toArray = ls at hl ⊢
  replace hl : lv_has ls 2 [(0, .int 4), (1, .int 2)] := hl
  refine lv_iload_n hx hb dX1_ownBody_0 rfl (lv_at hl 0 rfl) ?_
  refine lv_tableIn (tgt := 80) hx hb dX1_ownBody_1 (by decide) (by decide) rfl (by decide) ?_
  refine lv_iload_n hx hb dX1_ownBody_80 rfl (lv_at hl 1 rfl) ?_
  refine lv_iconst (v := 2) hx hb dX1_ownBody_81 (by decide) ?_
  refine lv_icmp_ne (tgt := 90) hx hb dX1_ownBody_82 (by decide) (fun c_1 => ?_) (fun c_1 => ?_)
  · exact absurd c_1 (by decide)
  · refine lv_bipush (v := 50) hx hb dX1_ownBody_85 (by decide) ?_
    refine lv_goto (tgt := 100) hx hb dX1_ownBody_87 (by decide) ?_
    exact W.iret (v := 50) hx hb hr (fun t ht hW => ⟨50, rfl, rfl, ht⟩) (fun q hq => by cases hq) dX1_ownBody_100
set_option maxHeartbeats 4000000 in
set_option maxRecDepth 100000 in
theorem c_M_own_5_0 (l : Launch) (D : va_G) (cI cJ cZ cP cS : ClassId) (po : zPool)   : Met l yX1_ownBody wsX1_ownBody ({ frames := 0, cells := 0, slots := 0, locals := 0 }) (va_Pc [.int 5, .int 0] (zR D (zKT cI cJ cZ cP cS) po [])) (vp_Si (fun r => r = (-1))) 0 0 (fun _ => False) := by
  refine Met.ofW (cc := cX1_ownBody) (maxL := 2) (ret := (some .int)) (by decide) rfl ?_
  intro p e s m args below meth c s₁ B hml hv
  obtain ⟨rfl, hP, hK, hN, hZ⟩ := hv
  have hx := B.exec
  have hb := B.bytes
  have hr := B.returns
  have hts := atoms_spec (ws := wsX1_ownBody) B.pre
  have hown : s.vm.findClass RX1 = some m.cls := findClass_of_methodNamed B.named
  have hlocks := B.notSynchronized
  have hl := lv_entry ([.int 5, .int 0]) (n := 2) (Nat.le_of_ble_eq_true rfl)
  rw [lg_entry_eq]
  generalize (lg_sl ([.int 5, .int 0]) ++ List.replicate (2 - (lg_sl ([.int 5, .int 0])).length) Slot.unset).toArray = ls at hl ⊢
  replace hl : lv_has ls 2 [(0, .int 5), (1, .int 0)] := hl
  refine lv_iload_n hx hb dX1_ownBody_0 rfl (lv_at hl 0 rfl) ?_
  refine lv_tableIn (tgt := 101) hx hb dX1_ownBody_1 (by decide) (by decide) rfl (by decide) ?_
  refine lv_iload_n hx hb dX1_ownBody_101 rfl (lv_at hl 1 rfl) ?_
  refine lv_iconst (v := 2) hx hb dX1_ownBody_102 (by decide) ?_
  refine lv_icmp_ne (tgt := 111) hx hb dX1_ownBody_103 (by decide) (fun c_1 => ?_) (fun c_1 => ?_)
  · refine lv_iconst (v := (-1)) hx hb dX1_ownBody_111 (by decide) ?_
    exact W.iret (v := (-1)) hx hb hr (fun t ht hW => ⟨(-1), rfl, rfl, ht⟩) (fun q hq => by cases hq) dX1_ownBody_112
  · exact absurd c_1 (by decide)
set_option maxHeartbeats 4000000 in
set_option maxRecDepth 100000 in
theorem c_M_own_5_1 (l : Launch) (D : va_G) (cI cJ cZ cP cS : ClassId) (po : zPool)   : Met l yX1_ownBody wsX1_ownBody ({ frames := 0, cells := 0, slots := 0, locals := 0 }) (va_Pc [.int 5, .int 1] (zR D (zKT cI cJ cZ cP cS) po [])) (vp_Si (fun r => r = (-1))) 0 0 (fun _ => False) := by
  refine Met.ofW (cc := cX1_ownBody) (maxL := 2) (ret := (some .int)) (by decide) rfl ?_
  intro p e s m args below meth c s₁ B hml hv
  obtain ⟨rfl, hP, hK, hN, hZ⟩ := hv
  have hx := B.exec
  have hb := B.bytes
  have hr := B.returns
  have hts := atoms_spec (ws := wsX1_ownBody) B.pre
  have hown : s.vm.findClass RX1 = some m.cls := findClass_of_methodNamed B.named
  have hlocks := B.notSynchronized
  have hl := lv_entry ([.int 5, .int 1]) (n := 2) (Nat.le_of_ble_eq_true rfl)
  rw [lg_entry_eq]
  generalize (lg_sl ([.int 5, .int 1]) ++ List.replicate (2 - (lg_sl ([.int 5, .int 1])).length) Slot.unset).toArray = ls at hl ⊢
  replace hl : lv_has ls 2 [(0, .int 5), (1, .int 1)] := hl
  refine lv_iload_n hx hb dX1_ownBody_0 rfl (lv_at hl 0 rfl) ?_
  refine lv_tableIn (tgt := 101) hx hb dX1_ownBody_1 (by decide) (by decide) rfl (by decide) ?_
  refine lv_iload_n hx hb dX1_ownBody_101 rfl (lv_at hl 1 rfl) ?_
  refine lv_iconst (v := 2) hx hb dX1_ownBody_102 (by decide) ?_
  refine lv_icmp_ne (tgt := 111) hx hb dX1_ownBody_103 (by decide) (fun c_1 => ?_) (fun c_1 => ?_)
  · refine lv_iconst (v := (-1)) hx hb dX1_ownBody_111 (by decide) ?_
    exact W.iret (v := (-1)) hx hb hr (fun t ht hW => ⟨(-1), rfl, rfl, ht⟩) (fun q hq => by cases hq) dX1_ownBody_112
  · exact absurd c_1 (by decide)
set_option maxHeartbeats 4000000 in
set_option maxRecDepth 100000 in
theorem c_M_own_5_2 (l : Launch) (D : va_G) (cI cJ cZ cP cS : ClassId) (po : zPool)   : Met l yX1_ownBody wsX1_ownBody ({ frames := 0, cells := 0, slots := 0, locals := 0 }) (va_Pc [.int 5, .int 2] (zR D (zKT cI cJ cZ cP cS) po [])) (vp_Si (fun r => r = 60)) 0 0 (fun _ => False) := by
  refine Met.ofW (cc := cX1_ownBody) (maxL := 2) (ret := (some .int)) (by decide) rfl ?_
  intro p e s m args below meth c s₁ B hml hv
  obtain ⟨rfl, hP, hK, hN, hZ⟩ := hv
  have hx := B.exec
  have hb := B.bytes
  have hr := B.returns
  have hts := atoms_spec (ws := wsX1_ownBody) B.pre
  have hown : s.vm.findClass RX1 = some m.cls := findClass_of_methodNamed B.named
  have hlocks := B.notSynchronized
  have hl := lv_entry ([.int 5, .int 2]) (n := 2) (Nat.le_of_ble_eq_true rfl)
  rw [lg_entry_eq]
  generalize (lg_sl ([.int 5, .int 2]) ++ List.replicate (2 - (lg_sl ([.int 5, .int 2])).length) Slot.unset).toArray = ls at hl ⊢
  replace hl : lv_has ls 2 [(0, .int 5), (1, .int 2)] := hl
  refine lv_iload_n hx hb dX1_ownBody_0 rfl (lv_at hl 0 rfl) ?_
  refine lv_tableIn (tgt := 101) hx hb dX1_ownBody_1 (by decide) (by decide) rfl (by decide) ?_
  refine lv_iload_n hx hb dX1_ownBody_101 rfl (lv_at hl 1 rfl) ?_
  refine lv_iconst (v := 2) hx hb dX1_ownBody_102 (by decide) ?_
  refine lv_icmp_ne (tgt := 111) hx hb dX1_ownBody_103 (by decide) (fun c_1 => ?_) (fun c_1 => ?_)
  · exact absurd c_1 (by decide)
  · refine lv_bipush (v := 60) hx hb dX1_ownBody_106 (by decide) ?_
    refine lv_goto (tgt := 112) hx hb dX1_ownBody_108 (by decide) ?_
    exact W.iret (v := 60) hx hb hr (fun t ht hW => ⟨60, rfl, rfl, ht⟩) (fun q hq => by cases hq) dX1_ownBody_112
set_option maxHeartbeats 4000000 in
set_option maxRecDepth 100000 in
theorem c_M_own_6_0 (l : Launch) (D : va_G) (cI cJ cZ cP cS : ClassId) (po : zPool)   : Met l yX1_ownBody wsX1_ownBody ({ frames := 0, cells := 0, slots := 0, locals := 0 }) (va_Pc [.int 6, .int 0] (zR D (zKT cI cJ cZ cP cS) po [])) (vp_Si (fun r => r = 70)) 0 0 (fun _ => False) := by
  refine Met.ofW (cc := cX1_ownBody) (maxL := 2) (ret := (some .int)) (by decide) rfl ?_
  intro p e s m args below meth c s₁ B hml hv
  obtain ⟨rfl, hP, hK, hN, hZ⟩ := hv
  have hx := B.exec
  have hb := B.bytes
  have hr := B.returns
  have hts := atoms_spec (ws := wsX1_ownBody) B.pre
  have hown : s.vm.findClass RX1 = some m.cls := findClass_of_methodNamed B.named
  have hlocks := B.notSynchronized
  have hl := lv_entry ([.int 6, .int 0]) (n := 2) (Nat.le_of_ble_eq_true rfl)
  rw [lg_entry_eq]
  generalize (lg_sl ([.int 6, .int 0]) ++ List.replicate (2 - (lg_sl ([.int 6, .int 0])).length) Slot.unset).toArray = ls at hl ⊢
  replace hl : lv_has ls 2 [(0, .int 6), (1, .int 0)] := hl
  refine lv_iload_n hx hb dX1_ownBody_0 rfl (lv_at hl 0 rfl) ?_
  refine lv_tableOut (tgt := 113) hx hb dX1_ownBody_1 (by decide) (by decide) ?_
  refine lv_iload_n hx hb dX1_ownBody_113 rfl (lv_at hl 1 rfl) ?_
  refine lv_if_ne (tgt := 122) hx hb dX1_ownBody_114 (by decide) (fun c_1 => ?_) (fun c_1 => ?_)
  · exact absurd c_1 (by decide)
  · refine lv_bipush (v := 70) hx hb dX1_ownBody_117 (by decide) ?_
    refine lv_goto (tgt := 133) hx hb dX1_ownBody_119 (by decide) ?_
    exact W.iret (v := 70) hx hb hr (fun t ht hW => ⟨70, rfl, rfl, ht⟩) (fun q hq => by cases hq) dX1_ownBody_133
set_option maxHeartbeats 4000000 in
set_option maxRecDepth 100000 in
theorem c_M_own_6_1 (l : Launch) (D : va_G) (cI cJ cZ cP cS : ClassId) (po : zPool)   : Met l yX1_ownBody wsX1_ownBody ({ frames := 0, cells := 0, slots := 0, locals := 0 }) (va_Pc [.int 6, .int 1] (zR D (zKT cI cJ cZ cP cS) po [])) (vp_Si (fun r => r = 71)) 0 0 (fun _ => False) := by
  refine Met.ofW (cc := cX1_ownBody) (maxL := 2) (ret := (some .int)) (by decide) rfl ?_
  intro p e s m args below meth c s₁ B hml hv
  obtain ⟨rfl, hP, hK, hN, hZ⟩ := hv
  have hx := B.exec
  have hb := B.bytes
  have hr := B.returns
  have hts := atoms_spec (ws := wsX1_ownBody) B.pre
  have hown : s.vm.findClass RX1 = some m.cls := findClass_of_methodNamed B.named
  have hlocks := B.notSynchronized
  have hl := lv_entry ([.int 6, .int 1]) (n := 2) (Nat.le_of_ble_eq_true rfl)
  rw [lg_entry_eq]
  generalize (lg_sl ([.int 6, .int 1]) ++ List.replicate (2 - (lg_sl ([.int 6, .int 1])).length) Slot.unset).toArray = ls at hl ⊢
  replace hl : lv_has ls 2 [(0, .int 6), (1, .int 1)] := hl
  refine lv_iload_n hx hb dX1_ownBody_0 rfl (lv_at hl 0 rfl) ?_
  refine lv_tableOut (tgt := 113) hx hb dX1_ownBody_1 (by decide) (by decide) ?_
  refine lv_iload_n hx hb dX1_ownBody_113 rfl (lv_at hl 1 rfl) ?_
  refine lv_if_ne (tgt := 122) hx hb dX1_ownBody_114 (by decide) (fun c_1 => ?_) (fun c_1 => ?_)
  · refine lv_iload_n hx hb dX1_ownBody_122 rfl (lv_at hl 1 rfl) ?_
    refine lv_iconst (v := 1) hx hb dX1_ownBody_123 (by decide) ?_
    refine lv_icmp_ne (tgt := 132) hx hb dX1_ownBody_124 (by decide) (fun c_2 => ?_) (fun c_2 => ?_)
    · exact absurd c_2 (by decide)
    · refine lv_bipush (v := 71) hx hb dX1_ownBody_127 (by decide) ?_
      refine lv_goto (tgt := 133) hx hb dX1_ownBody_129 (by decide) ?_
      exact W.iret (v := 71) hx hb hr (fun t ht hW => ⟨71, rfl, rfl, ht⟩) (fun q hq => by cases hq) dX1_ownBody_133
  · exact absurd c_1 (by decide)
set_option maxHeartbeats 4000000 in
set_option maxRecDepth 100000 in
theorem c_M_own_6_2 (l : Launch) (D : va_G) (cI cJ cZ cP cS : ClassId) (po : zPool)   : Met l yX1_ownBody wsX1_ownBody ({ frames := 0, cells := 0, slots := 0, locals := 0 }) (va_Pc [.int 6, .int 2] (zR D (zKT cI cJ cZ cP cS) po [])) (vp_Si (fun r => r = (-1))) 0 0 (fun _ => False) := by
  refine Met.ofW (cc := cX1_ownBody) (maxL := 2) (ret := (some .int)) (by decide) rfl ?_
  intro p e s m args below meth c s₁ B hml hv
  obtain ⟨rfl, hP, hK, hN, hZ⟩ := hv
  have hx := B.exec
  have hb := B.bytes
  have hr := B.returns
  have hts := atoms_spec (ws := wsX1_ownBody) B.pre
  have hown : s.vm.findClass RX1 = some m.cls := findClass_of_methodNamed B.named
  have hlocks := B.notSynchronized
  have hl := lv_entry ([.int 6, .int 2]) (n := 2) (Nat.le_of_ble_eq_true rfl)
  rw [lg_entry_eq]
  generalize (lg_sl ([.int 6, .int 2]) ++ List.replicate (2 - (lg_sl ([.int 6, .int 2])).length) Slot.unset).toArray = ls at hl ⊢
  replace hl : lv_has ls 2 [(0, .int 6), (1, .int 2)] := hl
  refine lv_iload_n hx hb dX1_ownBody_0 rfl (lv_at hl 0 rfl) ?_
  refine lv_tableOut (tgt := 113) hx hb dX1_ownBody_1 (by decide) (by decide) ?_
  refine lv_iload_n hx hb dX1_ownBody_113 rfl (lv_at hl 1 rfl) ?_
  refine lv_if_ne (tgt := 122) hx hb dX1_ownBody_114 (by decide) (fun c_1 => ?_) (fun c_1 => ?_)
  · refine lv_iload_n hx hb dX1_ownBody_122 rfl (lv_at hl 1 rfl) ?_
    refine lv_iconst (v := 1) hx hb dX1_ownBody_123 (by decide) ?_
    refine lv_icmp_ne (tgt := 132) hx hb dX1_ownBody_124 (by decide) (fun c_2 => ?_) (fun c_2 => ?_)
    · refine lv_iconst (v := (-1)) hx hb dX1_ownBody_132 (by decide) ?_
      exact W.iret (v := (-1)) hx hb hr (fun t ht hW => ⟨(-1), rfl, rfl, ht⟩) (fun q hq => by cases hq) dX1_ownBody_133
    · exact absurd c_2 (by decide)
  · exact absurd c_1 (by decide)
set_option maxHeartbeats 4000000 in
set_option maxRecDepth 100000 in
theorem c_M_bodyFor_0_0 (l : Launch) (D : va_G) (cI cJ cZ cP cS : ClassId) (po : zPool)   : Met l yX1_bodyFor wsX1_bodyFor ({ frames := 1, cells := 0, slots := 0, locals := 22 }) (va_Pc [.int 0, .int 0] (zR D (zKT cI cJ cZ cP cS) po [])) (vp_Si (fun r => r = 10)) 0 0 (fun _ => False) := by
  refine Met.ofW (cc := cX1_bodyFor) (maxL := 5) (ret := (some .int)) (by decide) rfl ?_
  intro p e s m args below meth c s₁ B hml hv
  obtain ⟨rfl, hP, hK, hN, hZ⟩ := hv
  have hx := B.exec
  have hb := B.bytes
  have hr := B.returns
  have hts := atoms_spec (ws := wsX1_bodyFor) B.pre
  have hown : s.vm.findClass RX1 = some m.cls := findClass_of_methodNamed B.named
  have hlocks := B.notSynchronized
  have hl := lv_entry ([.int 0, .int 0]) (n := 5) (Nat.le_of_ble_eq_true rfl)
  rw [lg_entry_eq]
  generalize (lg_sl ([.int 0, .int 0]) ++ List.replicate (5 - (lg_sl ([.int 0, .int 0])).length) Slot.unset).toArray = ls at hl ⊢
  replace hl : lv_has ls 5 [(0, .int 0), (1, .int 0)] := hl
  refine lv_iload_n hx hb dX1_bodyFor_0 rfl (lv_at hl 0 rfl) ?_
  refine lv_istore_n (lv' := [(2, .int 0), (0, .int 0), (1, .int 0)]) hx hb dX1_bodyFor_1 rfl hl (by decide) rfl (fun ls hl => ?_)
  refine lv_iconst (v := 0) hx hb dX1_bodyFor_2 (by decide) ?_
  refine lv_istore_n (lv' := [(3, .int 0), (2, .int 0), (0, .int 0), (1, .int 0)]) hx hb dX1_bodyFor_3 rfl hl (by decide) rfl (fun ls hl => ?_)
  refine lv_iload_n hx hb dX1_bodyFor_4 rfl (lv_at hl 0 rfl) ?_
  refine lv_bipush (v := 7) hx hb dX1_bodyFor_5 (by decide) ?_
  refine lv_icmp_ge (tgt := 48) hx hb dX1_bodyFor_7 (by decide) (fun c_1 => ?_) (fun c_1 => ?_)
  · exact absurd c_1 (by decide)
  · refine lv_iload_n hx hb dX1_bodyFor_10 rfl (lv_at hl 1 rfl) ?_
    refine lv_iconst (v := 0) hx hb dX1_bodyFor_11 (by decide) ?_
    refine lv_bipush (v := 6) hx hb dX1_bodyFor_12 (by decide) ?_
    have kc0 : (0 : Int32).toInt = 0 := by decide
    have kc6 : (6 : Int32).toInt = 6 := by decide
    refine zc_SN (As := [.int 0, .int 0, .int 6]) (rest := []) ⟨hx, hb, hml, hown, hts⟩ (c_within l D cI cJ cZ cP cS po (0) (0) (6) ) ⟨(va_cnB 3 hts gX1_bodyFor_X7_within_n44 rfl rfl rfl (hN.1 (RX1, 44, yX7_within) (List.mem_of_getElem? (i := 13) rfl)) (hts _ (List.mem_of_getElem? (i := 2) rfl)) dh_X7_within ⟨Nat.le_of_ble_eq_true rfl, Nat.le_of_ble_eq_true rfl⟩), (hts _ (List.mem_of_getElem? (i := 1) rfl)), trivial⟩ hK hN hZ rfl hl.1 rfl (Nat.le_of_ble_eq_true rfl) dX1_bodyFor_14 ⟨Nat.le_of_ble_eq_true rfl, Nat.le_of_ble_eq_true rfl⟩ (fun r_2 hr_2 => ?_)
    rcases hr_2 with ⟨rfl, g_3⟩ | ⟨rfl, g_4, g_5⟩ | ⟨rfl, g_6, g_7⟩
    · exfalso; omega
    · exfalso; omega
    · refine lv_if_eq (tgt := 48) hx hb dX1_bodyFor_17 (by decide) (fun c_8 => ?_) (fun c_8 => ?_)
      · exact absurd c_8 (by decide)
      · refine lv_iload_n hx hb dX1_bodyFor_20 rfl (lv_at hl 1 rfl) ?_
        refine lv_iload_n hx hb dX1_bodyFor_21 rfl (lv_at hl 3 rfl) ?_
        refine zc_S (As := [.int 0, .int 0]) (rest := []) ⟨hx, hb, hml, hown, hts⟩ (c_M_own_0_0 l D cI cJ cZ cP cS po  ) (va_cwS 2 hts gX1_bodyFor_X1_ownBody rfl rfl rfl dh_X1_ownBody ⟨Nat.le_of_ble_eq_true rfl, Nat.le_of_ble_eq_true rfl⟩) hK hN hZ rfl hl.1 rfl (Nat.le_of_ble_eq_true rfl) dX1_bodyFor_22 ⟨Nat.le_of_ble_eq_true rfl, Nat.le_of_ble_eq_true rfl⟩ (fun r_9 hr_9 => ?_)
        obtain rfl := hr_9
        refine lv_istore (lv' := [(4, .int 10), (3, .int 0), (2, .int 0), (0, .int 0), (1, .int 0)]) hx hb dX1_bodyFor_25 hl (by decide) rfl (fun ls hl => ?_)
        refine lv_iload hx hb dX1_bodyFor_27 (lv_at hl 0 rfl) ?_
        refine lv_iconst (v := (-1)) hx hb dX1_bodyFor_29 (by decide) ?_
        refine lv_icmp_eq (tgt := 36) hx hb dX1_bodyFor_30 (by decide) (fun c_10 => ?_) (fun c_10 => ?_)
        · exact absurd c_10 (by decide)
        · refine lv_iload hx hb dX1_bodyFor_33 (lv_at hl 0 rfl) ?_
          exact W.iret (v := 10) hx hb hr (fun t ht hW => ⟨10, rfl, rfl, ht⟩) (fun q hq => by cases hq) dX1_bodyFor_35
set_option maxHeartbeats 4000000 in
set_option maxRecDepth 100000 in
theorem c_M_bodyFor_0_1 (l : Launch) (D : va_G) (cI cJ cZ cP cS : ClassId) (po : zPool)   : Met l yX1_bodyFor wsX1_bodyFor ({ frames := 1, cells := 0, slots := 0, locals := 22 }) (va_Pc [.int 0, .int 1] (zR D (zKT cI cJ cZ cP cS) po [])) (vp_Si (fun r => r = 11)) 0 0 (fun _ => False) := by
  refine Met.ofW (cc := cX1_bodyFor) (maxL := 5) (ret := (some .int)) (by decide) rfl ?_
  intro p e s m args below meth c s₁ B hml hv
  obtain ⟨rfl, hP, hK, hN, hZ⟩ := hv
  have hx := B.exec
  have hb := B.bytes
  have hr := B.returns
  have hts := atoms_spec (ws := wsX1_bodyFor) B.pre
  have hown : s.vm.findClass RX1 = some m.cls := findClass_of_methodNamed B.named
  have hlocks := B.notSynchronized
  have hl := lv_entry ([.int 0, .int 1]) (n := 5) (Nat.le_of_ble_eq_true rfl)
  rw [lg_entry_eq]
  generalize (lg_sl ([.int 0, .int 1]) ++ List.replicate (5 - (lg_sl ([.int 0, .int 1])).length) Slot.unset).toArray = ls at hl ⊢
  replace hl : lv_has ls 5 [(0, .int 0), (1, .int 1)] := hl
  refine lv_iload_n hx hb dX1_bodyFor_0 rfl (lv_at hl 0 rfl) ?_
  refine lv_istore_n (lv' := [(2, .int 0), (0, .int 0), (1, .int 1)]) hx hb dX1_bodyFor_1 rfl hl (by decide) rfl (fun ls hl => ?_)
  refine lv_iconst (v := 0) hx hb dX1_bodyFor_2 (by decide) ?_
  refine lv_istore_n (lv' := [(3, .int 0), (2, .int 0), (0, .int 0), (1, .int 1)]) hx hb dX1_bodyFor_3 rfl hl (by decide) rfl (fun ls hl => ?_)
  refine lv_iload_n hx hb dX1_bodyFor_4 rfl (lv_at hl 0 rfl) ?_
  refine lv_bipush (v := 7) hx hb dX1_bodyFor_5 (by decide) ?_
  refine lv_icmp_ge (tgt := 48) hx hb dX1_bodyFor_7 (by decide) (fun c_1 => ?_) (fun c_1 => ?_)
  · exact absurd c_1 (by decide)
  · refine lv_iload_n hx hb dX1_bodyFor_10 rfl (lv_at hl 1 rfl) ?_
    refine lv_iconst (v := 0) hx hb dX1_bodyFor_11 (by decide) ?_
    refine lv_bipush (v := 6) hx hb dX1_bodyFor_12 (by decide) ?_
    have kc0 : (0 : Int32).toInt = 0 := by decide
    have kc6 : (6 : Int32).toInt = 6 := by decide
    refine zc_SN (As := [.int 0, .int 0, .int 6]) (rest := []) ⟨hx, hb, hml, hown, hts⟩ (c_within l D cI cJ cZ cP cS po (0) (0) (6) ) ⟨(va_cnB 3 hts gX1_bodyFor_X7_within_n44 rfl rfl rfl (hN.1 (RX1, 44, yX7_within) (List.mem_of_getElem? (i := 13) rfl)) (hts _ (List.mem_of_getElem? (i := 2) rfl)) dh_X7_within ⟨Nat.le_of_ble_eq_true rfl, Nat.le_of_ble_eq_true rfl⟩), (hts _ (List.mem_of_getElem? (i := 1) rfl)), trivial⟩ hK hN hZ rfl hl.1 rfl (Nat.le_of_ble_eq_true rfl) dX1_bodyFor_14 ⟨Nat.le_of_ble_eq_true rfl, Nat.le_of_ble_eq_true rfl⟩ (fun r_2 hr_2 => ?_)
    rcases hr_2 with ⟨rfl, g_3⟩ | ⟨rfl, g_4, g_5⟩ | ⟨rfl, g_6, g_7⟩
    · exfalso; omega
    · exfalso; omega
    · refine lv_if_eq (tgt := 48) hx hb dX1_bodyFor_17 (by decide) (fun c_8 => ?_) (fun c_8 => ?_)
      · exact absurd c_8 (by decide)
      · refine lv_iload_n hx hb dX1_bodyFor_20 rfl (lv_at hl 1 rfl) ?_
        refine lv_iload_n hx hb dX1_bodyFor_21 rfl (lv_at hl 3 rfl) ?_
        refine zc_S (As := [.int 0, .int 1]) (rest := []) ⟨hx, hb, hml, hown, hts⟩ (c_M_own_0_1 l D cI cJ cZ cP cS po  ) (va_cwS 2 hts gX1_bodyFor_X1_ownBody rfl rfl rfl dh_X1_ownBody ⟨Nat.le_of_ble_eq_true rfl, Nat.le_of_ble_eq_true rfl⟩) hK hN hZ rfl hl.1 rfl (Nat.le_of_ble_eq_true rfl) dX1_bodyFor_22 ⟨Nat.le_of_ble_eq_true rfl, Nat.le_of_ble_eq_true rfl⟩ (fun r_9 hr_9 => ?_)
        obtain rfl := hr_9
        refine lv_istore (lv' := [(4, .int 11), (3, .int 0), (2, .int 0), (0, .int 0), (1, .int 1)]) hx hb dX1_bodyFor_25 hl (by decide) rfl (fun ls hl => ?_)
        refine lv_iload hx hb dX1_bodyFor_27 (lv_at hl 0 rfl) ?_
        refine lv_iconst (v := (-1)) hx hb dX1_bodyFor_29 (by decide) ?_
        refine lv_icmp_eq (tgt := 36) hx hb dX1_bodyFor_30 (by decide) (fun c_10 => ?_) (fun c_10 => ?_)
        · exact absurd c_10 (by decide)
        · refine lv_iload hx hb dX1_bodyFor_33 (lv_at hl 0 rfl) ?_
          exact W.iret (v := 11) hx hb hr (fun t ht hW => ⟨11, rfl, rfl, ht⟩) (fun q hq => by cases hq) dX1_bodyFor_35
set_option maxHeartbeats 4000000 in
set_option maxRecDepth 100000 in
theorem c_M_bodyFor_0_2 (l : Launch) (D : va_G) (cI cJ cZ cP cS : ClassId) (po : zPool)   : Met l yX1_bodyFor wsX1_bodyFor ({ frames := 1, cells := 0, slots := 0, locals := 22 }) (va_Pc [.int 0, .int 2] (zR D (zKT cI cJ cZ cP cS) po [])) (vp_Si (fun r => r = 12)) 0 0 (fun _ => False) := by
  refine Met.ofW (cc := cX1_bodyFor) (maxL := 5) (ret := (some .int)) (by decide) rfl ?_
  intro p e s m args below meth c s₁ B hml hv
  obtain ⟨rfl, hP, hK, hN, hZ⟩ := hv
  have hx := B.exec
  have hb := B.bytes
  have hr := B.returns
  have hts := atoms_spec (ws := wsX1_bodyFor) B.pre
  have hown : s.vm.findClass RX1 = some m.cls := findClass_of_methodNamed B.named
  have hlocks := B.notSynchronized
  have hl := lv_entry ([.int 0, .int 2]) (n := 5) (Nat.le_of_ble_eq_true rfl)
  rw [lg_entry_eq]
  generalize (lg_sl ([.int 0, .int 2]) ++ List.replicate (5 - (lg_sl ([.int 0, .int 2])).length) Slot.unset).toArray = ls at hl ⊢
  replace hl : lv_has ls 5 [(0, .int 0), (1, .int 2)] := hl
  refine lv_iload_n hx hb dX1_bodyFor_0 rfl (lv_at hl 0 rfl) ?_
  refine lv_istore_n (lv' := [(2, .int 0), (0, .int 0), (1, .int 2)]) hx hb dX1_bodyFor_1 rfl hl (by decide) rfl (fun ls hl => ?_)
  refine lv_iconst (v := 0) hx hb dX1_bodyFor_2 (by decide) ?_
  refine lv_istore_n (lv' := [(3, .int 0), (2, .int 0), (0, .int 0), (1, .int 2)]) hx hb dX1_bodyFor_3 rfl hl (by decide) rfl (fun ls hl => ?_)
  refine lv_iload_n hx hb dX1_bodyFor_4 rfl (lv_at hl 0 rfl) ?_
  refine lv_bipush (v := 7) hx hb dX1_bodyFor_5 (by decide) ?_
  refine lv_icmp_ge (tgt := 48) hx hb dX1_bodyFor_7 (by decide) (fun c_1 => ?_) (fun c_1 => ?_)
  · exact absurd c_1 (by decide)
  · refine lv_iload_n hx hb dX1_bodyFor_10 rfl (lv_at hl 1 rfl) ?_
    refine lv_iconst (v := 0) hx hb dX1_bodyFor_11 (by decide) ?_
    refine lv_bipush (v := 6) hx hb dX1_bodyFor_12 (by decide) ?_
    have kc0 : (0 : Int32).toInt = 0 := by decide
    have kc6 : (6 : Int32).toInt = 6 := by decide
    refine zc_SN (As := [.int 0, .int 0, .int 6]) (rest := []) ⟨hx, hb, hml, hown, hts⟩ (c_within l D cI cJ cZ cP cS po (0) (0) (6) ) ⟨(va_cnB 3 hts gX1_bodyFor_X7_within_n44 rfl rfl rfl (hN.1 (RX1, 44, yX7_within) (List.mem_of_getElem? (i := 13) rfl)) (hts _ (List.mem_of_getElem? (i := 2) rfl)) dh_X7_within ⟨Nat.le_of_ble_eq_true rfl, Nat.le_of_ble_eq_true rfl⟩), (hts _ (List.mem_of_getElem? (i := 1) rfl)), trivial⟩ hK hN hZ rfl hl.1 rfl (Nat.le_of_ble_eq_true rfl) dX1_bodyFor_14 ⟨Nat.le_of_ble_eq_true rfl, Nat.le_of_ble_eq_true rfl⟩ (fun r_2 hr_2 => ?_)
    rcases hr_2 with ⟨rfl, g_3⟩ | ⟨rfl, g_4, g_5⟩ | ⟨rfl, g_6, g_7⟩
    · exfalso; omega
    · exfalso; omega
    · refine lv_if_eq (tgt := 48) hx hb dX1_bodyFor_17 (by decide) (fun c_8 => ?_) (fun c_8 => ?_)
      · exact absurd c_8 (by decide)
      · refine lv_iload_n hx hb dX1_bodyFor_20 rfl (lv_at hl 1 rfl) ?_
        refine lv_iload_n hx hb dX1_bodyFor_21 rfl (lv_at hl 3 rfl) ?_
        refine zc_S (As := [.int 0, .int 2]) (rest := []) ⟨hx, hb, hml, hown, hts⟩ (c_M_own_0_2 l D cI cJ cZ cP cS po  ) (va_cwS 2 hts gX1_bodyFor_X1_ownBody rfl rfl rfl dh_X1_ownBody ⟨Nat.le_of_ble_eq_true rfl, Nat.le_of_ble_eq_true rfl⟩) hK hN hZ rfl hl.1 rfl (Nat.le_of_ble_eq_true rfl) dX1_bodyFor_22 ⟨Nat.le_of_ble_eq_true rfl, Nat.le_of_ble_eq_true rfl⟩ (fun r_9 hr_9 => ?_)
        obtain rfl := hr_9
        refine lv_istore (lv' := [(4, .int 12), (3, .int 0), (2, .int 0), (0, .int 0), (1, .int 2)]) hx hb dX1_bodyFor_25 hl (by decide) rfl (fun ls hl => ?_)
        refine lv_iload hx hb dX1_bodyFor_27 (lv_at hl 0 rfl) ?_
        refine lv_iconst (v := (-1)) hx hb dX1_bodyFor_29 (by decide) ?_
        refine lv_icmp_eq (tgt := 36) hx hb dX1_bodyFor_30 (by decide) (fun c_10 => ?_) (fun c_10 => ?_)
        · exact absurd c_10 (by decide)
        · refine lv_iload hx hb dX1_bodyFor_33 (lv_at hl 0 rfl) ?_
          exact W.iret (v := 12) hx hb hr (fun t ht hW => ⟨12, rfl, rfl, ht⟩) (fun q hq => by cases hq) dX1_bodyFor_35
set_option maxHeartbeats 4000000 in
set_option maxRecDepth 100000 in
theorem c_M_bodyFor_1_0 (l : Launch) (D : va_G) (cI cJ cZ cP cS : ClassId) (po : zPool)   : Met l yX1_bodyFor wsX1_bodyFor ({ frames := 1, cells := 0, slots := 0, locals := 22 }) (va_Pc [.int 1, .int 0] (zR D (zKT cI cJ cZ cP cS) po [])) (vp_Si (fun r => r = 20)) 0 0 (fun _ => False) := by
  refine Met.ofW (cc := cX1_bodyFor) (maxL := 5) (ret := (some .int)) (by decide) rfl ?_
  intro p e s m args below meth c s₁ B hml hv
  obtain ⟨rfl, hP, hK, hN, hZ⟩ := hv
  have hx := B.exec
  have hb := B.bytes
  have hr := B.returns
  have hts := atoms_spec (ws := wsX1_bodyFor) B.pre
  have hown : s.vm.findClass RX1 = some m.cls := findClass_of_methodNamed B.named
  have hlocks := B.notSynchronized
  have hl := lv_entry ([.int 1, .int 0]) (n := 5) (Nat.le_of_ble_eq_true rfl)
  rw [lg_entry_eq]
  generalize (lg_sl ([.int 1, .int 0]) ++ List.replicate (5 - (lg_sl ([.int 1, .int 0])).length) Slot.unset).toArray = ls at hl ⊢
  replace hl : lv_has ls 5 [(0, .int 1), (1, .int 0)] := hl
  refine lv_iload_n hx hb dX1_bodyFor_0 rfl (lv_at hl 0 rfl) ?_
  refine lv_istore_n (lv' := [(2, .int 1), (0, .int 1), (1, .int 0)]) hx hb dX1_bodyFor_1 rfl hl (by decide) rfl (fun ls hl => ?_)
  refine lv_iconst (v := 0) hx hb dX1_bodyFor_2 (by decide) ?_
  refine lv_istore_n (lv' := [(3, .int 0), (2, .int 1), (0, .int 1), (1, .int 0)]) hx hb dX1_bodyFor_3 rfl hl (by decide) rfl (fun ls hl => ?_)
  refine lv_iload_n hx hb dX1_bodyFor_4 rfl (lv_at hl 0 rfl) ?_
  refine lv_bipush (v := 7) hx hb dX1_bodyFor_5 (by decide) ?_
  refine lv_icmp_ge (tgt := 48) hx hb dX1_bodyFor_7 (by decide) (fun c_1 => ?_) (fun c_1 => ?_)
  · exact absurd c_1 (by decide)
  · refine lv_iload_n hx hb dX1_bodyFor_10 rfl (lv_at hl 1 rfl) ?_
    refine lv_iconst (v := 0) hx hb dX1_bodyFor_11 (by decide) ?_
    refine lv_bipush (v := 6) hx hb dX1_bodyFor_12 (by decide) ?_
    have kc1 : (1 : Int32).toInt = 1 := by decide
    have kc0 : (0 : Int32).toInt = 0 := by decide
    have kc6 : (6 : Int32).toInt = 6 := by decide
    refine zc_SN (As := [.int 1, .int 0, .int 6]) (rest := []) ⟨hx, hb, hml, hown, hts⟩ (c_within l D cI cJ cZ cP cS po (1) (0) (6) ) ⟨(va_cnB 3 hts gX1_bodyFor_X7_within_n44 rfl rfl rfl (hN.1 (RX1, 44, yX7_within) (List.mem_of_getElem? (i := 13) rfl)) (hts _ (List.mem_of_getElem? (i := 2) rfl)) dh_X7_within ⟨Nat.le_of_ble_eq_true rfl, Nat.le_of_ble_eq_true rfl⟩), (hts _ (List.mem_of_getElem? (i := 1) rfl)), trivial⟩ hK hN hZ rfl hl.1 rfl (Nat.le_of_ble_eq_true rfl) dX1_bodyFor_14 ⟨Nat.le_of_ble_eq_true rfl, Nat.le_of_ble_eq_true rfl⟩ (fun r_2 hr_2 => ?_)
    rcases hr_2 with ⟨rfl, g_3⟩ | ⟨rfl, g_4, g_5⟩ | ⟨rfl, g_6, g_7⟩
    · exfalso; omega
    · exfalso; omega
    · refine lv_if_eq (tgt := 48) hx hb dX1_bodyFor_17 (by decide) (fun c_8 => ?_) (fun c_8 => ?_)
      · exact absurd c_8 (by decide)
      · refine lv_iload_n hx hb dX1_bodyFor_20 rfl (lv_at hl 1 rfl) ?_
        refine lv_iload_n hx hb dX1_bodyFor_21 rfl (lv_at hl 3 rfl) ?_
        refine zc_S (As := [.int 1, .int 0]) (rest := []) ⟨hx, hb, hml, hown, hts⟩ (c_M_own_1_0 l D cI cJ cZ cP cS po  ) (va_cwS 2 hts gX1_bodyFor_X1_ownBody rfl rfl rfl dh_X1_ownBody ⟨Nat.le_of_ble_eq_true rfl, Nat.le_of_ble_eq_true rfl⟩) hK hN hZ rfl hl.1 rfl (Nat.le_of_ble_eq_true rfl) dX1_bodyFor_22 ⟨Nat.le_of_ble_eq_true rfl, Nat.le_of_ble_eq_true rfl⟩ (fun r_9 hr_9 => ?_)
        obtain rfl := hr_9
        refine lv_istore (lv' := [(4, .int 20), (3, .int 0), (2, .int 1), (0, .int 1), (1, .int 0)]) hx hb dX1_bodyFor_25 hl (by decide) rfl (fun ls hl => ?_)
        refine lv_iload hx hb dX1_bodyFor_27 (lv_at hl 0 rfl) ?_
        refine lv_iconst (v := (-1)) hx hb dX1_bodyFor_29 (by decide) ?_
        refine lv_icmp_eq (tgt := 36) hx hb dX1_bodyFor_30 (by decide) (fun c_10 => ?_) (fun c_10 => ?_)
        · exact absurd c_10 (by decide)
        · refine lv_iload hx hb dX1_bodyFor_33 (lv_at hl 0 rfl) ?_
          exact W.iret (v := 20) hx hb hr (fun t ht hW => ⟨20, rfl, rfl, ht⟩) (fun q hq => by cases hq) dX1_bodyFor_35
set_option maxHeartbeats 4000000 in
set_option maxRecDepth 100000 in
theorem c_M_bodyFor_1_1 (l : Launch) (D : va_G) (cI cJ cZ cP cS : ClassId) (po : zPool)   : Met l yX1_bodyFor wsX1_bodyFor ({ frames := 1, cells := 0, slots := 0, locals := 22 }) (va_Pc [.int 1, .int 1] (zR D (zKT cI cJ cZ cP cS) po [])) (vp_Si (fun r => r = 11)) 0 0 (fun _ => False) := by
  refine Met.ofW (cc := cX1_bodyFor) (maxL := 5) (ret := (some .int)) (by decide) rfl ?_
  intro p e s m args below meth c s₁ B hml hv
  obtain ⟨rfl, hP, hK, hN, hZ⟩ := hv
  have hx := B.exec
  have hb := B.bytes
  have hr := B.returns
  have hts := atoms_spec (ws := wsX1_bodyFor) B.pre
  have hown : s.vm.findClass RX1 = some m.cls := findClass_of_methodNamed B.named
  have hlocks := B.notSynchronized
  have hl := lv_entry ([.int 1, .int 1]) (n := 5) (Nat.le_of_ble_eq_true rfl)
  rw [lg_entry_eq]
  generalize (lg_sl ([.int 1, .int 1]) ++ List.replicate (5 - (lg_sl ([.int 1, .int 1])).length) Slot.unset).toArray = ls at hl ⊢
  replace hl : lv_has ls 5 [(0, .int 1), (1, .int 1)] := hl
  refine lv_iload_n hx hb dX1_bodyFor_0 rfl (lv_at hl 0 rfl) ?_
  refine lv_istore_n (lv' := [(2, .int 1), (0, .int 1), (1, .int 1)]) hx hb dX1_bodyFor_1 rfl hl (by decide) rfl (fun ls hl => ?_)
  refine lv_iconst (v := 0) hx hb dX1_bodyFor_2 (by decide) ?_
  refine lv_istore_n (lv' := [(3, .int 0), (2, .int 1), (0, .int 1), (1, .int 1)]) hx hb dX1_bodyFor_3 rfl hl (by decide) rfl (fun ls hl => ?_)
  refine lv_iload_n hx hb dX1_bodyFor_4 rfl (lv_at hl 0 rfl) ?_
  refine lv_bipush (v := 7) hx hb dX1_bodyFor_5 (by decide) ?_
  refine lv_icmp_ge (tgt := 48) hx hb dX1_bodyFor_7 (by decide) (fun c_1 => ?_) (fun c_1 => ?_)
  · exact absurd c_1 (by decide)
  · refine lv_iload_n hx hb dX1_bodyFor_10 rfl (lv_at hl 1 rfl) ?_
    refine lv_iconst (v := 0) hx hb dX1_bodyFor_11 (by decide) ?_
    refine lv_bipush (v := 6) hx hb dX1_bodyFor_12 (by decide) ?_
    have kc1 : (1 : Int32).toInt = 1 := by decide
    have kc0 : (0 : Int32).toInt = 0 := by decide
    have kc6 : (6 : Int32).toInt = 6 := by decide
    refine zc_SN (As := [.int 1, .int 0, .int 6]) (rest := []) ⟨hx, hb, hml, hown, hts⟩ (c_within l D cI cJ cZ cP cS po (1) (0) (6) ) ⟨(va_cnB 3 hts gX1_bodyFor_X7_within_n44 rfl rfl rfl (hN.1 (RX1, 44, yX7_within) (List.mem_of_getElem? (i := 13) rfl)) (hts _ (List.mem_of_getElem? (i := 2) rfl)) dh_X7_within ⟨Nat.le_of_ble_eq_true rfl, Nat.le_of_ble_eq_true rfl⟩), (hts _ (List.mem_of_getElem? (i := 1) rfl)), trivial⟩ hK hN hZ rfl hl.1 rfl (Nat.le_of_ble_eq_true rfl) dX1_bodyFor_14 ⟨Nat.le_of_ble_eq_true rfl, Nat.le_of_ble_eq_true rfl⟩ (fun r_2 hr_2 => ?_)
    rcases hr_2 with ⟨rfl, g_3⟩ | ⟨rfl, g_4, g_5⟩ | ⟨rfl, g_6, g_7⟩
    · exfalso; omega
    · exfalso; omega
    · refine lv_if_eq (tgt := 48) hx hb dX1_bodyFor_17 (by decide) (fun c_8 => ?_) (fun c_8 => ?_)
      · exact absurd c_8 (by decide)
      · refine lv_iload_n hx hb dX1_bodyFor_20 rfl (lv_at hl 1 rfl) ?_
        refine lv_iload_n hx hb dX1_bodyFor_21 rfl (lv_at hl 3 rfl) ?_
        refine zc_S (As := [.int 1, .int 1]) (rest := []) ⟨hx, hb, hml, hown, hts⟩ (c_M_own_1_1 l D cI cJ cZ cP cS po  ) (va_cwS 2 hts gX1_bodyFor_X1_ownBody rfl rfl rfl dh_X1_ownBody ⟨Nat.le_of_ble_eq_true rfl, Nat.le_of_ble_eq_true rfl⟩) hK hN hZ rfl hl.1 rfl (Nat.le_of_ble_eq_true rfl) dX1_bodyFor_22 ⟨Nat.le_of_ble_eq_true rfl, Nat.le_of_ble_eq_true rfl⟩ (fun r_9 hr_9 => ?_)
        obtain rfl := hr_9
        refine lv_istore (lv' := [(4, .int (-1)), (3, .int 0), (2, .int 1), (0, .int 1), (1, .int 1)]) hx hb dX1_bodyFor_25 hl (by decide) rfl (fun ls hl => ?_)
        refine lv_iload hx hb dX1_bodyFor_27 (lv_at hl 0 rfl) ?_
        refine lv_iconst (v := (-1)) hx hb dX1_bodyFor_29 (by decide) ?_
        refine lv_icmp_eq (tgt := 36) hx hb dX1_bodyFor_30 (by decide) (fun c_10 => ?_) (fun c_10 => ?_)
        · obtain ⟨t_11, zt_11, yt_11⟩ := hZ.1.2
          refine va_getsN hx hb zt_11 va_S.rf hown (va_Nw.use rfl (hN.2.1 (RX1, 58) (List.mem_of_getElem? (i := 1) rfl))) (fun _ h9 => h9) dX1_bodyFor_36 ?_
          refine lv_iload_n hx hb dX1_bodyFor_39 rfl (lv_at hl 2 rfl) ?_
          refine va_ti hx hb yt_11 va_S.rf (zf_in (by decide) (by decide)) (v := .int 0) (by decide) dX1_bodyFor_40 ?_
          refine lv_istore_n (lv' := [(2, .int 0), (4, .int (-1)), (3, .int 0), (0, .int 1), (1, .int 1)]) hx hb dX1_bodyFor_41 rfl hl (by decide) rfl (fun ls hl => ?_)
          refine lv_iinc (v := 1) (lv' := [(3, .int 1), (2, .int 0), (4, .int (-1)), (0, .int 1), (1, .int 1)]) hx hb dX1_bodyFor_42 hl (k := 2) rfl (by decide) (by decide) rfl (fun ls hl => ?_)
          refine lv_goto (tgt := 4) hx hb dX1_bodyFor_45 (by decide) ?_
          refine lv_iload_n hx hb dX1_bodyFor_4 rfl (lv_at hl 0 rfl) ?_
          refine lv_bipush (v := 7) hx hb dX1_bodyFor_5 (by decide) ?_
          refine lv_icmp_ge (tgt := 48) hx hb dX1_bodyFor_7 (by decide) (fun c_12 => ?_) (fun c_12 => ?_)
          · exact absurd c_12 (by decide)
          · refine lv_iload_n hx hb dX1_bodyFor_10 rfl (lv_at hl 1 rfl) ?_
            refine lv_iconst (v := 0) hx hb dX1_bodyFor_11 (by decide) ?_
            refine lv_bipush (v := 6) hx hb dX1_bodyFor_12 (by decide) ?_
            refine zc_SN (As := [.int 0, .int 0, .int 6]) (rest := []) ⟨hx, hb, hml, hown, hts⟩ (c_within l D cI cJ cZ cP cS po (0) (0) (6) ) ⟨(va_cnB 3 hts gX1_bodyFor_X7_within_n44 rfl rfl rfl (hN.1 (RX1, 44, yX7_within) (List.mem_of_getElem? (i := 13) rfl)) (hts _ (List.mem_of_getElem? (i := 2) rfl)) dh_X7_within ⟨Nat.le_of_ble_eq_true rfl, Nat.le_of_ble_eq_true rfl⟩), (hts _ (List.mem_of_getElem? (i := 1) rfl)), trivial⟩ hK hN hZ rfl hl.1 rfl (Nat.le_of_ble_eq_true rfl) dX1_bodyFor_14 ⟨Nat.le_of_ble_eq_true rfl, Nat.le_of_ble_eq_true rfl⟩ (fun r_13 hr_13 => ?_)
            rcases hr_13 with ⟨rfl, g_14⟩ | ⟨rfl, g_15, g_16⟩ | ⟨rfl, g_17, g_18⟩
            · exfalso; omega
            · exfalso; omega
            · refine lv_if_eq (tgt := 48) hx hb dX1_bodyFor_17 (by decide) (fun c_19 => ?_) (fun c_19 => ?_)
              · exact absurd c_19 (by decide)
              · refine lv_iload_n hx hb dX1_bodyFor_20 rfl (lv_at hl 1 rfl) ?_
                refine lv_iload_n hx hb dX1_bodyFor_21 rfl (lv_at hl 4 rfl) ?_
                refine zc_S (As := [.int 0, .int 1]) (rest := []) ⟨hx, hb, hml, hown, hts⟩ (c_M_own_0_1 l D cI cJ cZ cP cS po  ) (va_cwS 2 hts gX1_bodyFor_X1_ownBody rfl rfl rfl dh_X1_ownBody ⟨Nat.le_of_ble_eq_true rfl, Nat.le_of_ble_eq_true rfl⟩) hK hN hZ rfl hl.1 rfl (Nat.le_of_ble_eq_true rfl) dX1_bodyFor_22 ⟨Nat.le_of_ble_eq_true rfl, Nat.le_of_ble_eq_true rfl⟩ (fun r_20 hr_20 => ?_)
                obtain rfl := hr_20
                refine lv_istore (lv' := [(4, .int 11), (3, .int 1), (2, .int 0), (0, .int 1), (1, .int 1)]) hx hb dX1_bodyFor_25 hl (by decide) rfl (fun ls hl => ?_)
                refine lv_iload hx hb dX1_bodyFor_27 (lv_at hl 0 rfl) ?_
                refine lv_iconst (v := (-1)) hx hb dX1_bodyFor_29 (by decide) ?_
                refine lv_icmp_eq (tgt := 36) hx hb dX1_bodyFor_30 (by decide) (fun c_21 => ?_) (fun c_21 => ?_)
                · exact absurd c_21 (by decide)
                · refine lv_iload hx hb dX1_bodyFor_33 (lv_at hl 0 rfl) ?_
                  exact W.iret (v := 11) hx hb hr (fun t ht hW => ⟨11, rfl, rfl, ht⟩) (fun q hq => by cases hq) dX1_bodyFor_35
        · exact absurd c_10 (by decide)
set_option maxHeartbeats 4000000 in
set_option maxRecDepth 100000 in
theorem c_M_bodyFor_1_2 (l : Launch) (D : va_G) (cI cJ cZ cP cS : ClassId) (po : zPool)   : Met l yX1_bodyFor wsX1_bodyFor ({ frames := 1, cells := 0, slots := 0, locals := 22 }) (va_Pc [.int 1, .int 2] (zR D (zKT cI cJ cZ cP cS) po [])) (vp_Si (fun r => r = 12)) 0 0 (fun _ => False) := by
  refine Met.ofW (cc := cX1_bodyFor) (maxL := 5) (ret := (some .int)) (by decide) rfl ?_
  intro p e s m args below meth c s₁ B hml hv
  obtain ⟨rfl, hP, hK, hN, hZ⟩ := hv
  have hx := B.exec
  have hb := B.bytes
  have hr := B.returns
  have hts := atoms_spec (ws := wsX1_bodyFor) B.pre
  have hown : s.vm.findClass RX1 = some m.cls := findClass_of_methodNamed B.named
  have hlocks := B.notSynchronized
  have hl := lv_entry ([.int 1, .int 2]) (n := 5) (Nat.le_of_ble_eq_true rfl)
  rw [lg_entry_eq]
  generalize (lg_sl ([.int 1, .int 2]) ++ List.replicate (5 - (lg_sl ([.int 1, .int 2])).length) Slot.unset).toArray = ls at hl ⊢
  replace hl : lv_has ls 5 [(0, .int 1), (1, .int 2)] := hl
  refine lv_iload_n hx hb dX1_bodyFor_0 rfl (lv_at hl 0 rfl) ?_
  refine lv_istore_n (lv' := [(2, .int 1), (0, .int 1), (1, .int 2)]) hx hb dX1_bodyFor_1 rfl hl (by decide) rfl (fun ls hl => ?_)
  refine lv_iconst (v := 0) hx hb dX1_bodyFor_2 (by decide) ?_
  refine lv_istore_n (lv' := [(3, .int 0), (2, .int 1), (0, .int 1), (1, .int 2)]) hx hb dX1_bodyFor_3 rfl hl (by decide) rfl (fun ls hl => ?_)
  refine lv_iload_n hx hb dX1_bodyFor_4 rfl (lv_at hl 0 rfl) ?_
  refine lv_bipush (v := 7) hx hb dX1_bodyFor_5 (by decide) ?_
  refine lv_icmp_ge (tgt := 48) hx hb dX1_bodyFor_7 (by decide) (fun c_1 => ?_) (fun c_1 => ?_)
  · exact absurd c_1 (by decide)
  · refine lv_iload_n hx hb dX1_bodyFor_10 rfl (lv_at hl 1 rfl) ?_
    refine lv_iconst (v := 0) hx hb dX1_bodyFor_11 (by decide) ?_
    refine lv_bipush (v := 6) hx hb dX1_bodyFor_12 (by decide) ?_
    have kc1 : (1 : Int32).toInt = 1 := by decide
    have kc0 : (0 : Int32).toInt = 0 := by decide
    have kc6 : (6 : Int32).toInt = 6 := by decide
    refine zc_SN (As := [.int 1, .int 0, .int 6]) (rest := []) ⟨hx, hb, hml, hown, hts⟩ (c_within l D cI cJ cZ cP cS po (1) (0) (6) ) ⟨(va_cnB 3 hts gX1_bodyFor_X7_within_n44 rfl rfl rfl (hN.1 (RX1, 44, yX7_within) (List.mem_of_getElem? (i := 13) rfl)) (hts _ (List.mem_of_getElem? (i := 2) rfl)) dh_X7_within ⟨Nat.le_of_ble_eq_true rfl, Nat.le_of_ble_eq_true rfl⟩), (hts _ (List.mem_of_getElem? (i := 1) rfl)), trivial⟩ hK hN hZ rfl hl.1 rfl (Nat.le_of_ble_eq_true rfl) dX1_bodyFor_14 ⟨Nat.le_of_ble_eq_true rfl, Nat.le_of_ble_eq_true rfl⟩ (fun r_2 hr_2 => ?_)
    rcases hr_2 with ⟨rfl, g_3⟩ | ⟨rfl, g_4, g_5⟩ | ⟨rfl, g_6, g_7⟩
    · exfalso; omega
    · exfalso; omega
    · refine lv_if_eq (tgt := 48) hx hb dX1_bodyFor_17 (by decide) (fun c_8 => ?_) (fun c_8 => ?_)
      · exact absurd c_8 (by decide)
      · refine lv_iload_n hx hb dX1_bodyFor_20 rfl (lv_at hl 1 rfl) ?_
        refine lv_iload_n hx hb dX1_bodyFor_21 rfl (lv_at hl 3 rfl) ?_
        refine zc_S (As := [.int 1, .int 2]) (rest := []) ⟨hx, hb, hml, hown, hts⟩ (c_M_own_1_2 l D cI cJ cZ cP cS po  ) (va_cwS 2 hts gX1_bodyFor_X1_ownBody rfl rfl rfl dh_X1_ownBody ⟨Nat.le_of_ble_eq_true rfl, Nat.le_of_ble_eq_true rfl⟩) hK hN hZ rfl hl.1 rfl (Nat.le_of_ble_eq_true rfl) dX1_bodyFor_22 ⟨Nat.le_of_ble_eq_true rfl, Nat.le_of_ble_eq_true rfl⟩ (fun r_9 hr_9 => ?_)
        obtain rfl := hr_9
        refine lv_istore (lv' := [(4, .int (-1)), (3, .int 0), (2, .int 1), (0, .int 1), (1, .int 2)]) hx hb dX1_bodyFor_25 hl (by decide) rfl (fun ls hl => ?_)
        refine lv_iload hx hb dX1_bodyFor_27 (lv_at hl 0 rfl) ?_
        refine lv_iconst (v := (-1)) hx hb dX1_bodyFor_29 (by decide) ?_
        refine lv_icmp_eq (tgt := 36) hx hb dX1_bodyFor_30 (by decide) (fun c_10 => ?_) (fun c_10 => ?_)
        · obtain ⟨t_11, zt_11, yt_11⟩ := hZ.1.2
          refine va_getsN hx hb zt_11 va_S.rf hown (va_Nw.use rfl (hN.2.1 (RX1, 58) (List.mem_of_getElem? (i := 1) rfl))) (fun _ h9 => h9) dX1_bodyFor_36 ?_
          refine lv_iload_n hx hb dX1_bodyFor_39 rfl (lv_at hl 2 rfl) ?_
          refine va_ti hx hb yt_11 va_S.rf (zf_in (by decide) (by decide)) (v := .int 0) (by decide) dX1_bodyFor_40 ?_
          refine lv_istore_n (lv' := [(2, .int 0), (4, .int (-1)), (3, .int 0), (0, .int 1), (1, .int 2)]) hx hb dX1_bodyFor_41 rfl hl (by decide) rfl (fun ls hl => ?_)
          refine lv_iinc (v := 1) (lv' := [(3, .int 1), (2, .int 0), (4, .int (-1)), (0, .int 1), (1, .int 2)]) hx hb dX1_bodyFor_42 hl (k := 2) rfl (by decide) (by decide) rfl (fun ls hl => ?_)
          refine lv_goto (tgt := 4) hx hb dX1_bodyFor_45 (by decide) ?_
          refine lv_iload_n hx hb dX1_bodyFor_4 rfl (lv_at hl 0 rfl) ?_
          refine lv_bipush (v := 7) hx hb dX1_bodyFor_5 (by decide) ?_
          refine lv_icmp_ge (tgt := 48) hx hb dX1_bodyFor_7 (by decide) (fun c_12 => ?_) (fun c_12 => ?_)
          · exact absurd c_12 (by decide)
          · refine lv_iload_n hx hb dX1_bodyFor_10 rfl (lv_at hl 1 rfl) ?_
            refine lv_iconst (v := 0) hx hb dX1_bodyFor_11 (by decide) ?_
            refine lv_bipush (v := 6) hx hb dX1_bodyFor_12 (by decide) ?_
            refine zc_SN (As := [.int 0, .int 0, .int 6]) (rest := []) ⟨hx, hb, hml, hown, hts⟩ (c_within l D cI cJ cZ cP cS po (0) (0) (6) ) ⟨(va_cnB 3 hts gX1_bodyFor_X7_within_n44 rfl rfl rfl (hN.1 (RX1, 44, yX7_within) (List.mem_of_getElem? (i := 13) rfl)) (hts _ (List.mem_of_getElem? (i := 2) rfl)) dh_X7_within ⟨Nat.le_of_ble_eq_true rfl, Nat.le_of_ble_eq_true rfl⟩), (hts _ (List.mem_of_getElem? (i := 1) rfl)), trivial⟩ hK hN hZ rfl hl.1 rfl (Nat.le_of_ble_eq_true rfl) dX1_bodyFor_14 ⟨Nat.le_of_ble_eq_true rfl, Nat.le_of_ble_eq_true rfl⟩ (fun r_13 hr_13 => ?_)
            rcases hr_13 with ⟨rfl, g_14⟩ | ⟨rfl, g_15, g_16⟩ | ⟨rfl, g_17, g_18⟩
            · exfalso; omega
            · exfalso; omega
            · refine lv_if_eq (tgt := 48) hx hb dX1_bodyFor_17 (by decide) (fun c_19 => ?_) (fun c_19 => ?_)
              · exact absurd c_19 (by decide)
              · refine lv_iload_n hx hb dX1_bodyFor_20 rfl (lv_at hl 1 rfl) ?_
                refine lv_iload_n hx hb dX1_bodyFor_21 rfl (lv_at hl 4 rfl) ?_
                refine zc_S (As := [.int 0, .int 2]) (rest := []) ⟨hx, hb, hml, hown, hts⟩ (c_M_own_0_2 l D cI cJ cZ cP cS po  ) (va_cwS 2 hts gX1_bodyFor_X1_ownBody rfl rfl rfl dh_X1_ownBody ⟨Nat.le_of_ble_eq_true rfl, Nat.le_of_ble_eq_true rfl⟩) hK hN hZ rfl hl.1 rfl (Nat.le_of_ble_eq_true rfl) dX1_bodyFor_22 ⟨Nat.le_of_ble_eq_true rfl, Nat.le_of_ble_eq_true rfl⟩ (fun r_20 hr_20 => ?_)
                obtain rfl := hr_20
                refine lv_istore (lv' := [(4, .int 12), (3, .int 1), (2, .int 0), (0, .int 1), (1, .int 2)]) hx hb dX1_bodyFor_25 hl (by decide) rfl (fun ls hl => ?_)
                refine lv_iload hx hb dX1_bodyFor_27 (lv_at hl 0 rfl) ?_
                refine lv_iconst (v := (-1)) hx hb dX1_bodyFor_29 (by decide) ?_
                refine lv_icmp_eq (tgt := 36) hx hb dX1_bodyFor_30 (by decide) (fun c_21 => ?_) (fun c_21 => ?_)
                · exact absurd c_21 (by decide)
                · refine lv_iload hx hb dX1_bodyFor_33 (lv_at hl 0 rfl) ?_
                  exact W.iret (v := 12) hx hb hr (fun t ht hW => ⟨12, rfl, rfl, ht⟩) (fun q hq => by cases hq) dX1_bodyFor_35
        · exact absurd c_10 (by decide)
set_option maxHeartbeats 4000000 in
set_option maxRecDepth 100000 in
theorem c_M_bodyFor_2_0 (l : Launch) (D : va_G) (cI cJ cZ cP cS : ClassId) (po : zPool)   : Met l yX1_bodyFor wsX1_bodyFor ({ frames := 1, cells := 0, slots := 0, locals := 22 }) (va_Pc [.int 2, .int 0] (zR D (zKT cI cJ cZ cP cS) po [])) (vp_Si (fun r => r = 10)) 0 0 (fun _ => False) := by
  refine Met.ofW (cc := cX1_bodyFor) (maxL := 5) (ret := (some .int)) (by decide) rfl ?_
  intro p e s m args below meth c s₁ B hml hv
  obtain ⟨rfl, hP, hK, hN, hZ⟩ := hv
  have hx := B.exec
  have hb := B.bytes
  have hr := B.returns
  have hts := atoms_spec (ws := wsX1_bodyFor) B.pre
  have hown : s.vm.findClass RX1 = some m.cls := findClass_of_methodNamed B.named
  have hlocks := B.notSynchronized
  have hl := lv_entry ([.int 2, .int 0]) (n := 5) (Nat.le_of_ble_eq_true rfl)
  rw [lg_entry_eq]
  generalize (lg_sl ([.int 2, .int 0]) ++ List.replicate (5 - (lg_sl ([.int 2, .int 0])).length) Slot.unset).toArray = ls at hl ⊢
  replace hl : lv_has ls 5 [(0, .int 2), (1, .int 0)] := hl
  refine lv_iload_n hx hb dX1_bodyFor_0 rfl (lv_at hl 0 rfl) ?_
  refine lv_istore_n (lv' := [(2, .int 2), (0, .int 2), (1, .int 0)]) hx hb dX1_bodyFor_1 rfl hl (by decide) rfl (fun ls hl => ?_)
  refine lv_iconst (v := 0) hx hb dX1_bodyFor_2 (by decide) ?_
  refine lv_istore_n (lv' := [(3, .int 0), (2, .int 2), (0, .int 2), (1, .int 0)]) hx hb dX1_bodyFor_3 rfl hl (by decide) rfl (fun ls hl => ?_)
  refine lv_iload_n hx hb dX1_bodyFor_4 rfl (lv_at hl 0 rfl) ?_
  refine lv_bipush (v := 7) hx hb dX1_bodyFor_5 (by decide) ?_
  refine lv_icmp_ge (tgt := 48) hx hb dX1_bodyFor_7 (by decide) (fun c_1 => ?_) (fun c_1 => ?_)
  · exact absurd c_1 (by decide)
  · refine lv_iload_n hx hb dX1_bodyFor_10 rfl (lv_at hl 1 rfl) ?_
    refine lv_iconst (v := 0) hx hb dX1_bodyFor_11 (by decide) ?_
    refine lv_bipush (v := 6) hx hb dX1_bodyFor_12 (by decide) ?_
    have kc2 : (2 : Int32).toInt = 2 := by decide
    have kc0 : (0 : Int32).toInt = 0 := by decide
    have kc6 : (6 : Int32).toInt = 6 := by decide
    refine zc_SN (As := [.int 2, .int 0, .int 6]) (rest := []) ⟨hx, hb, hml, hown, hts⟩ (c_within l D cI cJ cZ cP cS po (2) (0) (6) ) ⟨(va_cnB 3 hts gX1_bodyFor_X7_within_n44 rfl rfl rfl (hN.1 (RX1, 44, yX7_within) (List.mem_of_getElem? (i := 13) rfl)) (hts _ (List.mem_of_getElem? (i := 2) rfl)) dh_X7_within ⟨Nat.le_of_ble_eq_true rfl, Nat.le_of_ble_eq_true rfl⟩), (hts _ (List.mem_of_getElem? (i := 1) rfl)), trivial⟩ hK hN hZ rfl hl.1 rfl (Nat.le_of_ble_eq_true rfl) dX1_bodyFor_14 ⟨Nat.le_of_ble_eq_true rfl, Nat.le_of_ble_eq_true rfl⟩ (fun r_2 hr_2 => ?_)
    rcases hr_2 with ⟨rfl, g_3⟩ | ⟨rfl, g_4, g_5⟩ | ⟨rfl, g_6, g_7⟩
    · exfalso; omega
    · exfalso; omega
    · refine lv_if_eq (tgt := 48) hx hb dX1_bodyFor_17 (by decide) (fun c_8 => ?_) (fun c_8 => ?_)
      · exact absurd c_8 (by decide)
      · refine lv_iload_n hx hb dX1_bodyFor_20 rfl (lv_at hl 1 rfl) ?_
        refine lv_iload_n hx hb dX1_bodyFor_21 rfl (lv_at hl 3 rfl) ?_
        refine zc_S (As := [.int 2, .int 0]) (rest := []) ⟨hx, hb, hml, hown, hts⟩ (c_M_own_2_0 l D cI cJ cZ cP cS po  ) (va_cwS 2 hts gX1_bodyFor_X1_ownBody rfl rfl rfl dh_X1_ownBody ⟨Nat.le_of_ble_eq_true rfl, Nat.le_of_ble_eq_true rfl⟩) hK hN hZ rfl hl.1 rfl (Nat.le_of_ble_eq_true rfl) dX1_bodyFor_22 ⟨Nat.le_of_ble_eq_true rfl, Nat.le_of_ble_eq_true rfl⟩ (fun r_9 hr_9 => ?_)
        obtain rfl := hr_9
        refine lv_istore (lv' := [(4, .int (-1)), (3, .int 0), (2, .int 2), (0, .int 2), (1, .int 0)]) hx hb dX1_bodyFor_25 hl (by decide) rfl (fun ls hl => ?_)
        refine lv_iload hx hb dX1_bodyFor_27 (lv_at hl 0 rfl) ?_
        refine lv_iconst (v := (-1)) hx hb dX1_bodyFor_29 (by decide) ?_
        refine lv_icmp_eq (tgt := 36) hx hb dX1_bodyFor_30 (by decide) (fun c_10 => ?_) (fun c_10 => ?_)
        · obtain ⟨t_11, zt_11, yt_11⟩ := hZ.1.2
          refine va_getsN hx hb zt_11 va_S.rf hown (va_Nw.use rfl (hN.2.1 (RX1, 58) (List.mem_of_getElem? (i := 1) rfl))) (fun _ h9 => h9) dX1_bodyFor_36 ?_
          refine lv_iload_n hx hb dX1_bodyFor_39 rfl (lv_at hl 2 rfl) ?_
          refine va_ti hx hb yt_11 va_S.rf (zf_in (by decide) (by decide)) (v := .int 0) (by decide) dX1_bodyFor_40 ?_
          refine lv_istore_n (lv' := [(2, .int 0), (4, .int (-1)), (3, .int 0), (0, .int 2), (1, .int 0)]) hx hb dX1_bodyFor_41 rfl hl (by decide) rfl (fun ls hl => ?_)
          refine lv_iinc (v := 1) (lv' := [(3, .int 1), (2, .int 0), (4, .int (-1)), (0, .int 2), (1, .int 0)]) hx hb dX1_bodyFor_42 hl (k := 2) rfl (by decide) (by decide) rfl (fun ls hl => ?_)
          refine lv_goto (tgt := 4) hx hb dX1_bodyFor_45 (by decide) ?_
          refine lv_iload_n hx hb dX1_bodyFor_4 rfl (lv_at hl 0 rfl) ?_
          refine lv_bipush (v := 7) hx hb dX1_bodyFor_5 (by decide) ?_
          refine lv_icmp_ge (tgt := 48) hx hb dX1_bodyFor_7 (by decide) (fun c_12 => ?_) (fun c_12 => ?_)
          · exact absurd c_12 (by decide)
          · refine lv_iload_n hx hb dX1_bodyFor_10 rfl (lv_at hl 1 rfl) ?_
            refine lv_iconst (v := 0) hx hb dX1_bodyFor_11 (by decide) ?_
            refine lv_bipush (v := 6) hx hb dX1_bodyFor_12 (by decide) ?_
            refine zc_SN (As := [.int 0, .int 0, .int 6]) (rest := []) ⟨hx, hb, hml, hown, hts⟩ (c_within l D cI cJ cZ cP cS po (0) (0) (6) ) ⟨(va_cnB 3 hts gX1_bodyFor_X7_within_n44 rfl rfl rfl (hN.1 (RX1, 44, yX7_within) (List.mem_of_getElem? (i := 13) rfl)) (hts _ (List.mem_of_getElem? (i := 2) rfl)) dh_X7_within ⟨Nat.le_of_ble_eq_true rfl, Nat.le_of_ble_eq_true rfl⟩), (hts _ (List.mem_of_getElem? (i := 1) rfl)), trivial⟩ hK hN hZ rfl hl.1 rfl (Nat.le_of_ble_eq_true rfl) dX1_bodyFor_14 ⟨Nat.le_of_ble_eq_true rfl, Nat.le_of_ble_eq_true rfl⟩ (fun r_13 hr_13 => ?_)
            rcases hr_13 with ⟨rfl, g_14⟩ | ⟨rfl, g_15, g_16⟩ | ⟨rfl, g_17, g_18⟩
            · exfalso; omega
            · exfalso; omega
            · refine lv_if_eq (tgt := 48) hx hb dX1_bodyFor_17 (by decide) (fun c_19 => ?_) (fun c_19 => ?_)
              · exact absurd c_19 (by decide)
              · refine lv_iload_n hx hb dX1_bodyFor_20 rfl (lv_at hl 1 rfl) ?_
                refine lv_iload_n hx hb dX1_bodyFor_21 rfl (lv_at hl 4 rfl) ?_
                refine zc_S (As := [.int 0, .int 0]) (rest := []) ⟨hx, hb, hml, hown, hts⟩ (c_M_own_0_0 l D cI cJ cZ cP cS po  ) (va_cwS 2 hts gX1_bodyFor_X1_ownBody rfl rfl rfl dh_X1_ownBody ⟨Nat.le_of_ble_eq_true rfl, Nat.le_of_ble_eq_true rfl⟩) hK hN hZ rfl hl.1 rfl (Nat.le_of_ble_eq_true rfl) dX1_bodyFor_22 ⟨Nat.le_of_ble_eq_true rfl, Nat.le_of_ble_eq_true rfl⟩ (fun r_20 hr_20 => ?_)
                obtain rfl := hr_20
                refine lv_istore (lv' := [(4, .int 10), (3, .int 1), (2, .int 0), (0, .int 2), (1, .int 0)]) hx hb dX1_bodyFor_25 hl (by decide) rfl (fun ls hl => ?_)
                refine lv_iload hx hb dX1_bodyFor_27 (lv_at hl 0 rfl) ?_
                refine lv_iconst (v := (-1)) hx hb dX1_bodyFor_29 (by decide) ?_
                refine lv_icmp_eq (tgt := 36) hx hb dX1_bodyFor_30 (by decide) (fun c_21 => ?_) (fun c_21 => ?_)
                · exact absurd c_21 (by decide)
                · refine lv_iload hx hb dX1_bodyFor_33 (lv_at hl 0 rfl) ?_
                  exact W.iret (v := 10) hx hb hr (fun t ht hW => ⟨10, rfl, rfl, ht⟩) (fun q hq => by cases hq) dX1_bodyFor_35
        · exact absurd c_10 (by decide)
set_option maxHeartbeats 4000000 in
set_option maxRecDepth 100000 in
theorem c_M_bodyFor_2_1 (l : Launch) (D : va_G) (cI cJ cZ cP cS : ClassId) (po : zPool)   : Met l yX1_bodyFor wsX1_bodyFor ({ frames := 1, cells := 0, slots := 0, locals := 22 }) (va_Pc [.int 2, .int 1] (zR D (zKT cI cJ cZ cP cS) po [])) (vp_Si (fun r => r = 30)) 0 0 (fun _ => False) := by
  refine Met.ofW (cc := cX1_bodyFor) (maxL := 5) (ret := (some .int)) (by decide) rfl ?_
  intro p e s m args below meth c s₁ B hml hv
  obtain ⟨rfl, hP, hK, hN, hZ⟩ := hv
  have hx := B.exec
  have hb := B.bytes
  have hr := B.returns
  have hts := atoms_spec (ws := wsX1_bodyFor) B.pre
  have hown : s.vm.findClass RX1 = some m.cls := findClass_of_methodNamed B.named
  have hlocks := B.notSynchronized
  have hl := lv_entry ([.int 2, .int 1]) (n := 5) (Nat.le_of_ble_eq_true rfl)
  rw [lg_entry_eq]
  generalize (lg_sl ([.int 2, .int 1]) ++ List.replicate (5 - (lg_sl ([.int 2, .int 1])).length) Slot.unset).toArray = ls at hl ⊢
  replace hl : lv_has ls 5 [(0, .int 2), (1, .int 1)] := hl
  refine lv_iload_n hx hb dX1_bodyFor_0 rfl (lv_at hl 0 rfl) ?_
  refine lv_istore_n (lv' := [(2, .int 2), (0, .int 2), (1, .int 1)]) hx hb dX1_bodyFor_1 rfl hl (by decide) rfl (fun ls hl => ?_)
  refine lv_iconst (v := 0) hx hb dX1_bodyFor_2 (by decide) ?_
  refine lv_istore_n (lv' := [(3, .int 0), (2, .int 2), (0, .int 2), (1, .int 1)]) hx hb dX1_bodyFor_3 rfl hl (by decide) rfl (fun ls hl => ?_)
  refine lv_iload_n hx hb dX1_bodyFor_4 rfl (lv_at hl 0 rfl) ?_
  refine lv_bipush (v := 7) hx hb dX1_bodyFor_5 (by decide) ?_
  refine lv_icmp_ge (tgt := 48) hx hb dX1_bodyFor_7 (by decide) (fun c_1 => ?_) (fun c_1 => ?_)
  · exact absurd c_1 (by decide)
  · refine lv_iload_n hx hb dX1_bodyFor_10 rfl (lv_at hl 1 rfl) ?_
    refine lv_iconst (v := 0) hx hb dX1_bodyFor_11 (by decide) ?_
    refine lv_bipush (v := 6) hx hb dX1_bodyFor_12 (by decide) ?_
    have kc2 : (2 : Int32).toInt = 2 := by decide
    have kc0 : (0 : Int32).toInt = 0 := by decide
    have kc6 : (6 : Int32).toInt = 6 := by decide
    refine zc_SN (As := [.int 2, .int 0, .int 6]) (rest := []) ⟨hx, hb, hml, hown, hts⟩ (c_within l D cI cJ cZ cP cS po (2) (0) (6) ) ⟨(va_cnB 3 hts gX1_bodyFor_X7_within_n44 rfl rfl rfl (hN.1 (RX1, 44, yX7_within) (List.mem_of_getElem? (i := 13) rfl)) (hts _ (List.mem_of_getElem? (i := 2) rfl)) dh_X7_within ⟨Nat.le_of_ble_eq_true rfl, Nat.le_of_ble_eq_true rfl⟩), (hts _ (List.mem_of_getElem? (i := 1) rfl)), trivial⟩ hK hN hZ rfl hl.1 rfl (Nat.le_of_ble_eq_true rfl) dX1_bodyFor_14 ⟨Nat.le_of_ble_eq_true rfl, Nat.le_of_ble_eq_true rfl⟩ (fun r_2 hr_2 => ?_)
    rcases hr_2 with ⟨rfl, g_3⟩ | ⟨rfl, g_4, g_5⟩ | ⟨rfl, g_6, g_7⟩
    · exfalso; omega
    · exfalso; omega
    · refine lv_if_eq (tgt := 48) hx hb dX1_bodyFor_17 (by decide) (fun c_8 => ?_) (fun c_8 => ?_)
      · exact absurd c_8 (by decide)
      · refine lv_iload_n hx hb dX1_bodyFor_20 rfl (lv_at hl 1 rfl) ?_
        refine lv_iload_n hx hb dX1_bodyFor_21 rfl (lv_at hl 3 rfl) ?_
        refine zc_S (As := [.int 2, .int 1]) (rest := []) ⟨hx, hb, hml, hown, hts⟩ (c_M_own_2_1 l D cI cJ cZ cP cS po  ) (va_cwS 2 hts gX1_bodyFor_X1_ownBody rfl rfl rfl dh_X1_ownBody ⟨Nat.le_of_ble_eq_true rfl, Nat.le_of_ble_eq_true rfl⟩) hK hN hZ rfl hl.1 rfl (Nat.le_of_ble_eq_true rfl) dX1_bodyFor_22 ⟨Nat.le_of_ble_eq_true rfl, Nat.le_of_ble_eq_true rfl⟩ (fun r_9 hr_9 => ?_)
        obtain rfl := hr_9
        refine lv_istore (lv' := [(4, .int 30), (3, .int 0), (2, .int 2), (0, .int 2), (1, .int 1)]) hx hb dX1_bodyFor_25 hl (by decide) rfl (fun ls hl => ?_)
        refine lv_iload hx hb dX1_bodyFor_27 (lv_at hl 0 rfl) ?_
        refine lv_iconst (v := (-1)) hx hb dX1_bodyFor_29 (by decide) ?_
        refine lv_icmp_eq (tgt := 36) hx hb dX1_bodyFor_30 (by decide) (fun c_10 => ?_) (fun c_10 => ?_)
        · exact absurd c_10 (by decide)
        · refine lv_iload hx hb dX1_bodyFor_33 (lv_at hl 0 rfl) ?_
          exact W.iret (v := 30) hx hb hr (fun t ht hW => ⟨30, rfl, rfl, ht⟩) (fun q hq => by cases hq) dX1_bodyFor_35
set_option maxHeartbeats 4000000 in
set_option maxRecDepth 100000 in
theorem c_M_bodyFor_2_2 (l : Launch) (D : va_G) (cI cJ cZ cP cS : ClassId) (po : zPool)   : Met l yX1_bodyFor wsX1_bodyFor ({ frames := 1, cells := 0, slots := 0, locals := 22 }) (va_Pc [.int 2, .int 2] (zR D (zKT cI cJ cZ cP cS) po [])) (vp_Si (fun r => r = 12)) 0 0 (fun _ => False) := by
  refine Met.ofW (cc := cX1_bodyFor) (maxL := 5) (ret := (some .int)) (by decide) rfl ?_
  intro p e s m args below meth c s₁ B hml hv
  obtain ⟨rfl, hP, hK, hN, hZ⟩ := hv
  have hx := B.exec
  have hb := B.bytes
  have hr := B.returns
  have hts := atoms_spec (ws := wsX1_bodyFor) B.pre
  have hown : s.vm.findClass RX1 = some m.cls := findClass_of_methodNamed B.named
  have hlocks := B.notSynchronized
  have hl := lv_entry ([.int 2, .int 2]) (n := 5) (Nat.le_of_ble_eq_true rfl)
  rw [lg_entry_eq]
  generalize (lg_sl ([.int 2, .int 2]) ++ List.replicate (5 - (lg_sl ([.int 2, .int 2])).length) Slot.unset).toArray = ls at hl ⊢
  replace hl : lv_has ls 5 [(0, .int 2), (1, .int 2)] := hl
  refine lv_iload_n hx hb dX1_bodyFor_0 rfl (lv_at hl 0 rfl) ?_
  refine lv_istore_n (lv' := [(2, .int 2), (0, .int 2), (1, .int 2)]) hx hb dX1_bodyFor_1 rfl hl (by decide) rfl (fun ls hl => ?_)
  refine lv_iconst (v := 0) hx hb dX1_bodyFor_2 (by decide) ?_
  refine lv_istore_n (lv' := [(3, .int 0), (2, .int 2), (0, .int 2), (1, .int 2)]) hx hb dX1_bodyFor_3 rfl hl (by decide) rfl (fun ls hl => ?_)
  refine lv_iload_n hx hb dX1_bodyFor_4 rfl (lv_at hl 0 rfl) ?_
  refine lv_bipush (v := 7) hx hb dX1_bodyFor_5 (by decide) ?_
  refine lv_icmp_ge (tgt := 48) hx hb dX1_bodyFor_7 (by decide) (fun c_1 => ?_) (fun c_1 => ?_)
  · exact absurd c_1 (by decide)
  · refine lv_iload_n hx hb dX1_bodyFor_10 rfl (lv_at hl 1 rfl) ?_
    refine lv_iconst (v := 0) hx hb dX1_bodyFor_11 (by decide) ?_
    refine lv_bipush (v := 6) hx hb dX1_bodyFor_12 (by decide) ?_
    have kc2 : (2 : Int32).toInt = 2 := by decide
    have kc0 : (0 : Int32).toInt = 0 := by decide
    have kc6 : (6 : Int32).toInt = 6 := by decide
    refine zc_SN (As := [.int 2, .int 0, .int 6]) (rest := []) ⟨hx, hb, hml, hown, hts⟩ (c_within l D cI cJ cZ cP cS po (2) (0) (6) ) ⟨(va_cnB 3 hts gX1_bodyFor_X7_within_n44 rfl rfl rfl (hN.1 (RX1, 44, yX7_within) (List.mem_of_getElem? (i := 13) rfl)) (hts _ (List.mem_of_getElem? (i := 2) rfl)) dh_X7_within ⟨Nat.le_of_ble_eq_true rfl, Nat.le_of_ble_eq_true rfl⟩), (hts _ (List.mem_of_getElem? (i := 1) rfl)), trivial⟩ hK hN hZ rfl hl.1 rfl (Nat.le_of_ble_eq_true rfl) dX1_bodyFor_14 ⟨Nat.le_of_ble_eq_true rfl, Nat.le_of_ble_eq_true rfl⟩ (fun r_2 hr_2 => ?_)
    rcases hr_2 with ⟨rfl, g_3⟩ | ⟨rfl, g_4, g_5⟩ | ⟨rfl, g_6, g_7⟩
    · exfalso; omega
    · exfalso; omega
    · refine lv_if_eq (tgt := 48) hx hb dX1_bodyFor_17 (by decide) (fun c_8 => ?_) (fun c_8 => ?_)
      · exact absurd c_8 (by decide)
      · refine lv_iload_n hx hb dX1_bodyFor_20 rfl (lv_at hl 1 rfl) ?_
        refine lv_iload_n hx hb dX1_bodyFor_21 rfl (lv_at hl 3 rfl) ?_
        refine zc_S (As := [.int 2, .int 2]) (rest := []) ⟨hx, hb, hml, hown, hts⟩ (c_M_own_2_2 l D cI cJ cZ cP cS po  ) (va_cwS 2 hts gX1_bodyFor_X1_ownBody rfl rfl rfl dh_X1_ownBody ⟨Nat.le_of_ble_eq_true rfl, Nat.le_of_ble_eq_true rfl⟩) hK hN hZ rfl hl.1 rfl (Nat.le_of_ble_eq_true rfl) dX1_bodyFor_22 ⟨Nat.le_of_ble_eq_true rfl, Nat.le_of_ble_eq_true rfl⟩ (fun r_9 hr_9 => ?_)
        obtain rfl := hr_9
        refine lv_istore (lv' := [(4, .int (-1)), (3, .int 0), (2, .int 2), (0, .int 2), (1, .int 2)]) hx hb dX1_bodyFor_25 hl (by decide) rfl (fun ls hl => ?_)
        refine lv_iload hx hb dX1_bodyFor_27 (lv_at hl 0 rfl) ?_
        refine lv_iconst (v := (-1)) hx hb dX1_bodyFor_29 (by decide) ?_
        refine lv_icmp_eq (tgt := 36) hx hb dX1_bodyFor_30 (by decide) (fun c_10 => ?_) (fun c_10 => ?_)
        · obtain ⟨t_11, zt_11, yt_11⟩ := hZ.1.2
          refine va_getsN hx hb zt_11 va_S.rf hown (va_Nw.use rfl (hN.2.1 (RX1, 58) (List.mem_of_getElem? (i := 1) rfl))) (fun _ h9 => h9) dX1_bodyFor_36 ?_
          refine lv_iload_n hx hb dX1_bodyFor_39 rfl (lv_at hl 2 rfl) ?_
          refine va_ti hx hb yt_11 va_S.rf (zf_in (by decide) (by decide)) (v := .int 0) (by decide) dX1_bodyFor_40 ?_
          refine lv_istore_n (lv' := [(2, .int 0), (4, .int (-1)), (3, .int 0), (0, .int 2), (1, .int 2)]) hx hb dX1_bodyFor_41 rfl hl (by decide) rfl (fun ls hl => ?_)
          refine lv_iinc (v := 1) (lv' := [(3, .int 1), (2, .int 0), (4, .int (-1)), (0, .int 2), (1, .int 2)]) hx hb dX1_bodyFor_42 hl (k := 2) rfl (by decide) (by decide) rfl (fun ls hl => ?_)
          refine lv_goto (tgt := 4) hx hb dX1_bodyFor_45 (by decide) ?_
          refine lv_iload_n hx hb dX1_bodyFor_4 rfl (lv_at hl 0 rfl) ?_
          refine lv_bipush (v := 7) hx hb dX1_bodyFor_5 (by decide) ?_
          refine lv_icmp_ge (tgt := 48) hx hb dX1_bodyFor_7 (by decide) (fun c_12 => ?_) (fun c_12 => ?_)
          · exact absurd c_12 (by decide)
          · refine lv_iload_n hx hb dX1_bodyFor_10 rfl (lv_at hl 1 rfl) ?_
            refine lv_iconst (v := 0) hx hb dX1_bodyFor_11 (by decide) ?_
            refine lv_bipush (v := 6) hx hb dX1_bodyFor_12 (by decide) ?_
            refine zc_SN (As := [.int 0, .int 0, .int 6]) (rest := []) ⟨hx, hb, hml, hown, hts⟩ (c_within l D cI cJ cZ cP cS po (0) (0) (6) ) ⟨(va_cnB 3 hts gX1_bodyFor_X7_within_n44 rfl rfl rfl (hN.1 (RX1, 44, yX7_within) (List.mem_of_getElem? (i := 13) rfl)) (hts _ (List.mem_of_getElem? (i := 2) rfl)) dh_X7_within ⟨Nat.le_of_ble_eq_true rfl, Nat.le_of_ble_eq_true rfl⟩), (hts _ (List.mem_of_getElem? (i := 1) rfl)), trivial⟩ hK hN hZ rfl hl.1 rfl (Nat.le_of_ble_eq_true rfl) dX1_bodyFor_14 ⟨Nat.le_of_ble_eq_true rfl, Nat.le_of_ble_eq_true rfl⟩ (fun r_13 hr_13 => ?_)
            rcases hr_13 with ⟨rfl, g_14⟩ | ⟨rfl, g_15, g_16⟩ | ⟨rfl, g_17, g_18⟩
            · exfalso; omega
            · exfalso; omega
            · refine lv_if_eq (tgt := 48) hx hb dX1_bodyFor_17 (by decide) (fun c_19 => ?_) (fun c_19 => ?_)
              · exact absurd c_19 (by decide)
              · refine lv_iload_n hx hb dX1_bodyFor_20 rfl (lv_at hl 1 rfl) ?_
                refine lv_iload_n hx hb dX1_bodyFor_21 rfl (lv_at hl 4 rfl) ?_
                refine zc_S (As := [.int 0, .int 2]) (rest := []) ⟨hx, hb, hml, hown, hts⟩ (c_M_own_0_2 l D cI cJ cZ cP cS po  ) (va_cwS 2 hts gX1_bodyFor_X1_ownBody rfl rfl rfl dh_X1_ownBody ⟨Nat.le_of_ble_eq_true rfl, Nat.le_of_ble_eq_true rfl⟩) hK hN hZ rfl hl.1 rfl (Nat.le_of_ble_eq_true rfl) dX1_bodyFor_22 ⟨Nat.le_of_ble_eq_true rfl, Nat.le_of_ble_eq_true rfl⟩ (fun r_20 hr_20 => ?_)
                obtain rfl := hr_20
                refine lv_istore (lv' := [(4, .int 12), (3, .int 1), (2, .int 0), (0, .int 2), (1, .int 2)]) hx hb dX1_bodyFor_25 hl (by decide) rfl (fun ls hl => ?_)
                refine lv_iload hx hb dX1_bodyFor_27 (lv_at hl 0 rfl) ?_
                refine lv_iconst (v := (-1)) hx hb dX1_bodyFor_29 (by decide) ?_
                refine lv_icmp_eq (tgt := 36) hx hb dX1_bodyFor_30 (by decide) (fun c_21 => ?_) (fun c_21 => ?_)
                · exact absurd c_21 (by decide)
                · refine lv_iload hx hb dX1_bodyFor_33 (lv_at hl 0 rfl) ?_
                  exact W.iret (v := 12) hx hb hr (fun t ht hW => ⟨12, rfl, rfl, ht⟩) (fun q hq => by cases hq) dX1_bodyFor_35
        · exact absurd c_10 (by decide)
set_option maxHeartbeats 4000000 in
set_option maxRecDepth 100000 in
theorem c_M_bodyFor_3_0 (l : Launch) (D : va_G) (cI cJ cZ cP cS : ClassId) (po : zPool)   : Met l yX1_bodyFor wsX1_bodyFor ({ frames := 1, cells := 0, slots := 0, locals := 22 }) (va_Pc [.int 3, .int 0] (zR D (zKT cI cJ cZ cP cS) po [])) (vp_Si (fun r => r = 20)) 0 0 (fun _ => False) := by
  refine Met.ofW (cc := cX1_bodyFor) (maxL := 5) (ret := (some .int)) (by decide) rfl ?_
  intro p e s m args below meth c s₁ B hml hv
  obtain ⟨rfl, hP, hK, hN, hZ⟩ := hv
  have hx := B.exec
  have hb := B.bytes
  have hr := B.returns
  have hts := atoms_spec (ws := wsX1_bodyFor) B.pre
  have hown : s.vm.findClass RX1 = some m.cls := findClass_of_methodNamed B.named
  have hlocks := B.notSynchronized
  have hl := lv_entry ([.int 3, .int 0]) (n := 5) (Nat.le_of_ble_eq_true rfl)
  rw [lg_entry_eq]
  generalize (lg_sl ([.int 3, .int 0]) ++ List.replicate (5 - (lg_sl ([.int 3, .int 0])).length) Slot.unset).toArray = ls at hl ⊢
  replace hl : lv_has ls 5 [(0, .int 3), (1, .int 0)] := hl
  refine lv_iload_n hx hb dX1_bodyFor_0 rfl (lv_at hl 0 rfl) ?_
  refine lv_istore_n (lv' := [(2, .int 3), (0, .int 3), (1, .int 0)]) hx hb dX1_bodyFor_1 rfl hl (by decide) rfl (fun ls hl => ?_)
  refine lv_iconst (v := 0) hx hb dX1_bodyFor_2 (by decide) ?_
  refine lv_istore_n (lv' := [(3, .int 0), (2, .int 3), (0, .int 3), (1, .int 0)]) hx hb dX1_bodyFor_3 rfl hl (by decide) rfl (fun ls hl => ?_)
  refine lv_iload_n hx hb dX1_bodyFor_4 rfl (lv_at hl 0 rfl) ?_
  refine lv_bipush (v := 7) hx hb dX1_bodyFor_5 (by decide) ?_
  refine lv_icmp_ge (tgt := 48) hx hb dX1_bodyFor_7 (by decide) (fun c_1 => ?_) (fun c_1 => ?_)
  · exact absurd c_1 (by decide)
  · refine lv_iload_n hx hb dX1_bodyFor_10 rfl (lv_at hl 1 rfl) ?_
    refine lv_iconst (v := 0) hx hb dX1_bodyFor_11 (by decide) ?_
    refine lv_bipush (v := 6) hx hb dX1_bodyFor_12 (by decide) ?_
    have kc3 : (3 : Int32).toInt = 3 := by decide
    have kc0 : (0 : Int32).toInt = 0 := by decide
    have kc6 : (6 : Int32).toInt = 6 := by decide
    refine zc_SN (As := [.int 3, .int 0, .int 6]) (rest := []) ⟨hx, hb, hml, hown, hts⟩ (c_within l D cI cJ cZ cP cS po (3) (0) (6) ) ⟨(va_cnB 3 hts gX1_bodyFor_X7_within_n44 rfl rfl rfl (hN.1 (RX1, 44, yX7_within) (List.mem_of_getElem? (i := 13) rfl)) (hts _ (List.mem_of_getElem? (i := 2) rfl)) dh_X7_within ⟨Nat.le_of_ble_eq_true rfl, Nat.le_of_ble_eq_true rfl⟩), (hts _ (List.mem_of_getElem? (i := 1) rfl)), trivial⟩ hK hN hZ rfl hl.1 rfl (Nat.le_of_ble_eq_true rfl) dX1_bodyFor_14 ⟨Nat.le_of_ble_eq_true rfl, Nat.le_of_ble_eq_true rfl⟩ (fun r_2 hr_2 => ?_)
    rcases hr_2 with ⟨rfl, g_3⟩ | ⟨rfl, g_4, g_5⟩ | ⟨rfl, g_6, g_7⟩
    · exfalso; omega
    · exfalso; omega
    · refine lv_if_eq (tgt := 48) hx hb dX1_bodyFor_17 (by decide) (fun c_8 => ?_) (fun c_8 => ?_)
      · exact absurd c_8 (by decide)
      · refine lv_iload_n hx hb dX1_bodyFor_20 rfl (lv_at hl 1 rfl) ?_
        refine lv_iload_n hx hb dX1_bodyFor_21 rfl (lv_at hl 3 rfl) ?_
        refine zc_S (As := [.int 3, .int 0]) (rest := []) ⟨hx, hb, hml, hown, hts⟩ (c_M_own_3_0 l D cI cJ cZ cP cS po  ) (va_cwS 2 hts gX1_bodyFor_X1_ownBody rfl rfl rfl dh_X1_ownBody ⟨Nat.le_of_ble_eq_true rfl, Nat.le_of_ble_eq_true rfl⟩) hK hN hZ rfl hl.1 rfl (Nat.le_of_ble_eq_true rfl) dX1_bodyFor_22 ⟨Nat.le_of_ble_eq_true rfl, Nat.le_of_ble_eq_true rfl⟩ (fun r_9 hr_9 => ?_)
        obtain rfl := hr_9
        refine lv_istore (lv' := [(4, .int (-1)), (3, .int 0), (2, .int 3), (0, .int 3), (1, .int 0)]) hx hb dX1_bodyFor_25 hl (by decide) rfl (fun ls hl => ?_)
        refine lv_iload hx hb dX1_bodyFor_27 (lv_at hl 0 rfl) ?_
        refine lv_iconst (v := (-1)) hx hb dX1_bodyFor_29 (by decide) ?_
        refine lv_icmp_eq (tgt := 36) hx hb dX1_bodyFor_30 (by decide) (fun c_10 => ?_) (fun c_10 => ?_)
        · obtain ⟨t_11, zt_11, yt_11⟩ := hZ.1.2
          refine va_getsN hx hb zt_11 va_S.rf hown (va_Nw.use rfl (hN.2.1 (RX1, 58) (List.mem_of_getElem? (i := 1) rfl))) (fun _ h9 => h9) dX1_bodyFor_36 ?_
          refine lv_iload_n hx hb dX1_bodyFor_39 rfl (lv_at hl 2 rfl) ?_
          refine va_ti hx hb yt_11 va_S.rf (zf_in (by decide) (by decide)) (v := .int 1) (by decide) dX1_bodyFor_40 ?_
          refine lv_istore_n (lv' := [(2, .int 1), (4, .int (-1)), (3, .int 0), (0, .int 3), (1, .int 0)]) hx hb dX1_bodyFor_41 rfl hl (by decide) rfl (fun ls hl => ?_)
          refine lv_iinc (v := 1) (lv' := [(3, .int 1), (2, .int 1), (4, .int (-1)), (0, .int 3), (1, .int 0)]) hx hb dX1_bodyFor_42 hl (k := 2) rfl (by decide) (by decide) rfl (fun ls hl => ?_)
          refine lv_goto (tgt := 4) hx hb dX1_bodyFor_45 (by decide) ?_
          refine lv_iload_n hx hb dX1_bodyFor_4 rfl (lv_at hl 0 rfl) ?_
          refine lv_bipush (v := 7) hx hb dX1_bodyFor_5 (by decide) ?_
          refine lv_icmp_ge (tgt := 48) hx hb dX1_bodyFor_7 (by decide) (fun c_12 => ?_) (fun c_12 => ?_)
          · exact absurd c_12 (by decide)
          · refine lv_iload_n hx hb dX1_bodyFor_10 rfl (lv_at hl 1 rfl) ?_
            refine lv_iconst (v := 0) hx hb dX1_bodyFor_11 (by decide) ?_
            refine lv_bipush (v := 6) hx hb dX1_bodyFor_12 (by decide) ?_
            have kc1 : (1 : Int32).toInt = 1 := by decide
            refine zc_SN (As := [.int 1, .int 0, .int 6]) (rest := []) ⟨hx, hb, hml, hown, hts⟩ (c_within l D cI cJ cZ cP cS po (1) (0) (6) ) ⟨(va_cnB 3 hts gX1_bodyFor_X7_within_n44 rfl rfl rfl (hN.1 (RX1, 44, yX7_within) (List.mem_of_getElem? (i := 13) rfl)) (hts _ (List.mem_of_getElem? (i := 2) rfl)) dh_X7_within ⟨Nat.le_of_ble_eq_true rfl, Nat.le_of_ble_eq_true rfl⟩), (hts _ (List.mem_of_getElem? (i := 1) rfl)), trivial⟩ hK hN hZ rfl hl.1 rfl (Nat.le_of_ble_eq_true rfl) dX1_bodyFor_14 ⟨Nat.le_of_ble_eq_true rfl, Nat.le_of_ble_eq_true rfl⟩ (fun r_13 hr_13 => ?_)
            rcases hr_13 with ⟨rfl, g_14⟩ | ⟨rfl, g_15, g_16⟩ | ⟨rfl, g_17, g_18⟩
            · exfalso; omega
            · exfalso; omega
            · refine lv_if_eq (tgt := 48) hx hb dX1_bodyFor_17 (by decide) (fun c_19 => ?_) (fun c_19 => ?_)
              · exact absurd c_19 (by decide)
              · refine lv_iload_n hx hb dX1_bodyFor_20 rfl (lv_at hl 1 rfl) ?_
                refine lv_iload_n hx hb dX1_bodyFor_21 rfl (lv_at hl 4 rfl) ?_
                refine zc_S (As := [.int 1, .int 0]) (rest := []) ⟨hx, hb, hml, hown, hts⟩ (c_M_own_1_0 l D cI cJ cZ cP cS po  ) (va_cwS 2 hts gX1_bodyFor_X1_ownBody rfl rfl rfl dh_X1_ownBody ⟨Nat.le_of_ble_eq_true rfl, Nat.le_of_ble_eq_true rfl⟩) hK hN hZ rfl hl.1 rfl (Nat.le_of_ble_eq_true rfl) dX1_bodyFor_22 ⟨Nat.le_of_ble_eq_true rfl, Nat.le_of_ble_eq_true rfl⟩ (fun r_20 hr_20 => ?_)
                obtain rfl := hr_20
                refine lv_istore (lv' := [(4, .int 20), (3, .int 1), (2, .int 1), (0, .int 3), (1, .int 0)]) hx hb dX1_bodyFor_25 hl (by decide) rfl (fun ls hl => ?_)
                refine lv_iload hx hb dX1_bodyFor_27 (lv_at hl 0 rfl) ?_
                refine lv_iconst (v := (-1)) hx hb dX1_bodyFor_29 (by decide) ?_
                refine lv_icmp_eq (tgt := 36) hx hb dX1_bodyFor_30 (by decide) (fun c_21 => ?_) (fun c_21 => ?_)
                · exact absurd c_21 (by decide)
                · refine lv_iload hx hb dX1_bodyFor_33 (lv_at hl 0 rfl) ?_
                  exact W.iret (v := 20) hx hb hr (fun t ht hW => ⟨20, rfl, rfl, ht⟩) (fun q hq => by cases hq) dX1_bodyFor_35
        · exact absurd c_10 (by decide)
set_option maxHeartbeats 4000000 in
set_option maxRecDepth 100000 in
theorem c_M_bodyFor_3_1 (l : Launch) (D : va_G) (cI cJ cZ cP cS : ClassId) (po : zPool)   : Met l yX1_bodyFor wsX1_bodyFor ({ frames := 1, cells := 0, slots := 0, locals := 22 }) (va_Pc [.int 3, .int 1] (zR D (zKT cI cJ cZ cP cS) po [])) (vp_Si (fun r => r = 40)) 0 0 (fun _ => False) := by
  refine Met.ofW (cc := cX1_bodyFor) (maxL := 5) (ret := (some .int)) (by decide) rfl ?_
  intro p e s m args below meth c s₁ B hml hv
  obtain ⟨rfl, hP, hK, hN, hZ⟩ := hv
  have hx := B.exec
  have hb := B.bytes
  have hr := B.returns
  have hts := atoms_spec (ws := wsX1_bodyFor) B.pre
  have hown : s.vm.findClass RX1 = some m.cls := findClass_of_methodNamed B.named
  have hlocks := B.notSynchronized
  have hl := lv_entry ([.int 3, .int 1]) (n := 5) (Nat.le_of_ble_eq_true rfl)
  rw [lg_entry_eq]
  generalize (lg_sl ([.int 3, .int 1]) ++ List.replicate (5 - (lg_sl ([.int 3, .int 1])).length) Slot.unset).toArray = ls at hl ⊢
  replace hl : lv_has ls 5 [(0, .int 3), (1, .int 1)] := hl
  refine lv_iload_n hx hb dX1_bodyFor_0 rfl (lv_at hl 0 rfl) ?_
  refine lv_istore_n (lv' := [(2, .int 3), (0, .int 3), (1, .int 1)]) hx hb dX1_bodyFor_1 rfl hl (by decide) rfl (fun ls hl => ?_)
  refine lv_iconst (v := 0) hx hb dX1_bodyFor_2 (by decide) ?_
  refine lv_istore_n (lv' := [(3, .int 0), (2, .int 3), (0, .int 3), (1, .int 1)]) hx hb dX1_bodyFor_3 rfl hl (by decide) rfl (fun ls hl => ?_)
  refine lv_iload_n hx hb dX1_bodyFor_4 rfl (lv_at hl 0 rfl) ?_
  refine lv_bipush (v := 7) hx hb dX1_bodyFor_5 (by decide) ?_
  refine lv_icmp_ge (tgt := 48) hx hb dX1_bodyFor_7 (by decide) (fun c_1 => ?_) (fun c_1 => ?_)
  · exact absurd c_1 (by decide)
  · refine lv_iload_n hx hb dX1_bodyFor_10 rfl (lv_at hl 1 rfl) ?_
    refine lv_iconst (v := 0) hx hb dX1_bodyFor_11 (by decide) ?_
    refine lv_bipush (v := 6) hx hb dX1_bodyFor_12 (by decide) ?_
    have kc3 : (3 : Int32).toInt = 3 := by decide
    have kc0 : (0 : Int32).toInt = 0 := by decide
    have kc6 : (6 : Int32).toInt = 6 := by decide
    refine zc_SN (As := [.int 3, .int 0, .int 6]) (rest := []) ⟨hx, hb, hml, hown, hts⟩ (c_within l D cI cJ cZ cP cS po (3) (0) (6) ) ⟨(va_cnB 3 hts gX1_bodyFor_X7_within_n44 rfl rfl rfl (hN.1 (RX1, 44, yX7_within) (List.mem_of_getElem? (i := 13) rfl)) (hts _ (List.mem_of_getElem? (i := 2) rfl)) dh_X7_within ⟨Nat.le_of_ble_eq_true rfl, Nat.le_of_ble_eq_true rfl⟩), (hts _ (List.mem_of_getElem? (i := 1) rfl)), trivial⟩ hK hN hZ rfl hl.1 rfl (Nat.le_of_ble_eq_true rfl) dX1_bodyFor_14 ⟨Nat.le_of_ble_eq_true rfl, Nat.le_of_ble_eq_true rfl⟩ (fun r_2 hr_2 => ?_)
    rcases hr_2 with ⟨rfl, g_3⟩ | ⟨rfl, g_4, g_5⟩ | ⟨rfl, g_6, g_7⟩
    · exfalso; omega
    · exfalso; omega
    · refine lv_if_eq (tgt := 48) hx hb dX1_bodyFor_17 (by decide) (fun c_8 => ?_) (fun c_8 => ?_)
      · exact absurd c_8 (by decide)
      · refine lv_iload_n hx hb dX1_bodyFor_20 rfl (lv_at hl 1 rfl) ?_
        refine lv_iload_n hx hb dX1_bodyFor_21 rfl (lv_at hl 3 rfl) ?_
        refine zc_S (As := [.int 3, .int 1]) (rest := []) ⟨hx, hb, hml, hown, hts⟩ (c_M_own_3_1 l D cI cJ cZ cP cS po  ) (va_cwS 2 hts gX1_bodyFor_X1_ownBody rfl rfl rfl dh_X1_ownBody ⟨Nat.le_of_ble_eq_true rfl, Nat.le_of_ble_eq_true rfl⟩) hK hN hZ rfl hl.1 rfl (Nat.le_of_ble_eq_true rfl) dX1_bodyFor_22 ⟨Nat.le_of_ble_eq_true rfl, Nat.le_of_ble_eq_true rfl⟩ (fun r_9 hr_9 => ?_)
        obtain rfl := hr_9
        refine lv_istore (lv' := [(4, .int 40), (3, .int 0), (2, .int 3), (0, .int 3), (1, .int 1)]) hx hb dX1_bodyFor_25 hl (by decide) rfl (fun ls hl => ?_)
        refine lv_iload hx hb dX1_bodyFor_27 (lv_at hl 0 rfl) ?_
        refine lv_iconst (v := (-1)) hx hb dX1_bodyFor_29 (by decide) ?_
        refine lv_icmp_eq (tgt := 36) hx hb dX1_bodyFor_30 (by decide) (fun c_10 => ?_) (fun c_10 => ?_)
        · exact absurd c_10 (by decide)
        · refine lv_iload hx hb dX1_bodyFor_33 (lv_at hl 0 rfl) ?_
          exact W.iret (v := 40) hx hb hr (fun t ht hW => ⟨40, rfl, rfl, ht⟩) (fun q hq => by cases hq) dX1_bodyFor_35
set_option maxHeartbeats 4000000 in
set_option maxRecDepth 100000 in
theorem c_M_bodyFor_3_2 (l : Launch) (D : va_G) (cI cJ cZ cP cS : ClassId) (po : zPool)   : Met l yX1_bodyFor wsX1_bodyFor ({ frames := 1, cells := 0, slots := 0, locals := 22 }) (va_Pc [.int 3, .int 2] (zR D (zKT cI cJ cZ cP cS) po [])) (vp_Si (fun r => r = 12)) 0 0 (fun _ => False) := by
  refine Met.ofW (cc := cX1_bodyFor) (maxL := 5) (ret := (some .int)) (by decide) rfl ?_
  intro p e s m args below meth c s₁ B hml hv
  obtain ⟨rfl, hP, hK, hN, hZ⟩ := hv
  have hx := B.exec
  have hb := B.bytes
  have hr := B.returns
  have hts := atoms_spec (ws := wsX1_bodyFor) B.pre
  have hown : s.vm.findClass RX1 = some m.cls := findClass_of_methodNamed B.named
  have hlocks := B.notSynchronized
  have hl := lv_entry ([.int 3, .int 2]) (n := 5) (Nat.le_of_ble_eq_true rfl)
  rw [lg_entry_eq]
  generalize (lg_sl ([.int 3, .int 2]) ++ List.replicate (5 - (lg_sl ([.int 3, .int 2])).length) Slot.unset).toArray = ls at hl ⊢
  replace hl : lv_has ls 5 [(0, .int 3), (1, .int 2)] := hl
  refine lv_iload_n hx hb dX1_bodyFor_0 rfl (lv_at hl 0 rfl) ?_
  refine lv_istore_n (lv' := [(2, .int 3), (0, .int 3), (1, .int 2)]) hx hb dX1_bodyFor_1 rfl hl (by decide) rfl (fun ls hl => ?_)
  refine lv_iconst (v := 0) hx hb dX1_bodyFor_2 (by decide) ?_
  refine lv_istore_n (lv' := [(3, .int 0), (2, .int 3), (0, .int 3), (1, .int 2)]) hx hb dX1_bodyFor_3 rfl hl (by decide) rfl (fun ls hl => ?_)
  refine lv_iload_n hx hb dX1_bodyFor_4 rfl (lv_at hl 0 rfl) ?_
  refine lv_bipush (v := 7) hx hb dX1_bodyFor_5 (by decide) ?_
  refine lv_icmp_ge (tgt := 48) hx hb dX1_bodyFor_7 (by decide) (fun c_1 => ?_) (fun c_1 => ?_)
  · exact absurd c_1 (by decide)
  · refine lv_iload_n hx hb dX1_bodyFor_10 rfl (lv_at hl 1 rfl) ?_
    refine lv_iconst (v := 0) hx hb dX1_bodyFor_11 (by decide) ?_
    refine lv_bipush (v := 6) hx hb dX1_bodyFor_12 (by decide) ?_
    have kc3 : (3 : Int32).toInt = 3 := by decide
    have kc0 : (0 : Int32).toInt = 0 := by decide
    have kc6 : (6 : Int32).toInt = 6 := by decide
    refine zc_SN (As := [.int 3, .int 0, .int 6]) (rest := []) ⟨hx, hb, hml, hown, hts⟩ (c_within l D cI cJ cZ cP cS po (3) (0) (6) ) ⟨(va_cnB 3 hts gX1_bodyFor_X7_within_n44 rfl rfl rfl (hN.1 (RX1, 44, yX7_within) (List.mem_of_getElem? (i := 13) rfl)) (hts _ (List.mem_of_getElem? (i := 2) rfl)) dh_X7_within ⟨Nat.le_of_ble_eq_true rfl, Nat.le_of_ble_eq_true rfl⟩), (hts _ (List.mem_of_getElem? (i := 1) rfl)), trivial⟩ hK hN hZ rfl hl.1 rfl (Nat.le_of_ble_eq_true rfl) dX1_bodyFor_14 ⟨Nat.le_of_ble_eq_true rfl, Nat.le_of_ble_eq_true rfl⟩ (fun r_2 hr_2 => ?_)
    rcases hr_2 with ⟨rfl, g_3⟩ | ⟨rfl, g_4, g_5⟩ | ⟨rfl, g_6, g_7⟩
    · exfalso; omega
    · exfalso; omega
    · refine lv_if_eq (tgt := 48) hx hb dX1_bodyFor_17 (by decide) (fun c_8 => ?_) (fun c_8 => ?_)
      · exact absurd c_8 (by decide)
      · refine lv_iload_n hx hb dX1_bodyFor_20 rfl (lv_at hl 1 rfl) ?_
        refine lv_iload_n hx hb dX1_bodyFor_21 rfl (lv_at hl 3 rfl) ?_
        refine zc_S (As := [.int 3, .int 2]) (rest := []) ⟨hx, hb, hml, hown, hts⟩ (c_M_own_3_2 l D cI cJ cZ cP cS po  ) (va_cwS 2 hts gX1_bodyFor_X1_ownBody rfl rfl rfl dh_X1_ownBody ⟨Nat.le_of_ble_eq_true rfl, Nat.le_of_ble_eq_true rfl⟩) hK hN hZ rfl hl.1 rfl (Nat.le_of_ble_eq_true rfl) dX1_bodyFor_22 ⟨Nat.le_of_ble_eq_true rfl, Nat.le_of_ble_eq_true rfl⟩ (fun r_9 hr_9 => ?_)
        obtain rfl := hr_9
        refine lv_istore (lv' := [(4, .int (-1)), (3, .int 0), (2, .int 3), (0, .int 3), (1, .int 2)]) hx hb dX1_bodyFor_25 hl (by decide) rfl (fun ls hl => ?_)
        refine lv_iload hx hb dX1_bodyFor_27 (lv_at hl 0 rfl) ?_
        refine lv_iconst (v := (-1)) hx hb dX1_bodyFor_29 (by decide) ?_
        refine lv_icmp_eq (tgt := 36) hx hb dX1_bodyFor_30 (by decide) (fun c_10 => ?_) (fun c_10 => ?_)
        · obtain ⟨t_11, zt_11, yt_11⟩ := hZ.1.2
          refine va_getsN hx hb zt_11 va_S.rf hown (va_Nw.use rfl (hN.2.1 (RX1, 58) (List.mem_of_getElem? (i := 1) rfl))) (fun _ h9 => h9) dX1_bodyFor_36 ?_
          refine lv_iload_n hx hb dX1_bodyFor_39 rfl (lv_at hl 2 rfl) ?_
          refine va_ti hx hb yt_11 va_S.rf (zf_in (by decide) (by decide)) (v := .int 1) (by decide) dX1_bodyFor_40 ?_
          refine lv_istore_n (lv' := [(2, .int 1), (4, .int (-1)), (3, .int 0), (0, .int 3), (1, .int 2)]) hx hb dX1_bodyFor_41 rfl hl (by decide) rfl (fun ls hl => ?_)
          refine lv_iinc (v := 1) (lv' := [(3, .int 1), (2, .int 1), (4, .int (-1)), (0, .int 3), (1, .int 2)]) hx hb dX1_bodyFor_42 hl (k := 2) rfl (by decide) (by decide) rfl (fun ls hl => ?_)
          refine lv_goto (tgt := 4) hx hb dX1_bodyFor_45 (by decide) ?_
          refine lv_iload_n hx hb dX1_bodyFor_4 rfl (lv_at hl 0 rfl) ?_
          refine lv_bipush (v := 7) hx hb dX1_bodyFor_5 (by decide) ?_
          refine lv_icmp_ge (tgt := 48) hx hb dX1_bodyFor_7 (by decide) (fun c_12 => ?_) (fun c_12 => ?_)
          · exact absurd c_12 (by decide)
          · refine lv_iload_n hx hb dX1_bodyFor_10 rfl (lv_at hl 1 rfl) ?_
            refine lv_iconst (v := 0) hx hb dX1_bodyFor_11 (by decide) ?_
            refine lv_bipush (v := 6) hx hb dX1_bodyFor_12 (by decide) ?_
            have kc1 : (1 : Int32).toInt = 1 := by decide
            refine zc_SN (As := [.int 1, .int 0, .int 6]) (rest := []) ⟨hx, hb, hml, hown, hts⟩ (c_within l D cI cJ cZ cP cS po (1) (0) (6) ) ⟨(va_cnB 3 hts gX1_bodyFor_X7_within_n44 rfl rfl rfl (hN.1 (RX1, 44, yX7_within) (List.mem_of_getElem? (i := 13) rfl)) (hts _ (List.mem_of_getElem? (i := 2) rfl)) dh_X7_within ⟨Nat.le_of_ble_eq_true rfl, Nat.le_of_ble_eq_true rfl⟩), (hts _ (List.mem_of_getElem? (i := 1) rfl)), trivial⟩ hK hN hZ rfl hl.1 rfl (Nat.le_of_ble_eq_true rfl) dX1_bodyFor_14 ⟨Nat.le_of_ble_eq_true rfl, Nat.le_of_ble_eq_true rfl⟩ (fun r_13 hr_13 => ?_)
            rcases hr_13 with ⟨rfl, g_14⟩ | ⟨rfl, g_15, g_16⟩ | ⟨rfl, g_17, g_18⟩
            · exfalso; omega
            · exfalso; omega
            · refine lv_if_eq (tgt := 48) hx hb dX1_bodyFor_17 (by decide) (fun c_19 => ?_) (fun c_19 => ?_)
              · exact absurd c_19 (by decide)
              · refine lv_iload_n hx hb dX1_bodyFor_20 rfl (lv_at hl 1 rfl) ?_
                refine lv_iload_n hx hb dX1_bodyFor_21 rfl (lv_at hl 4 rfl) ?_
                refine zc_S (As := [.int 1, .int 2]) (rest := []) ⟨hx, hb, hml, hown, hts⟩ (c_M_own_1_2 l D cI cJ cZ cP cS po  ) (va_cwS 2 hts gX1_bodyFor_X1_ownBody rfl rfl rfl dh_X1_ownBody ⟨Nat.le_of_ble_eq_true rfl, Nat.le_of_ble_eq_true rfl⟩) hK hN hZ rfl hl.1 rfl (Nat.le_of_ble_eq_true rfl) dX1_bodyFor_22 ⟨Nat.le_of_ble_eq_true rfl, Nat.le_of_ble_eq_true rfl⟩ (fun r_20 hr_20 => ?_)
                obtain rfl := hr_20
                refine lv_istore (lv' := [(4, .int (-1)), (3, .int 1), (2, .int 1), (0, .int 3), (1, .int 2)]) hx hb dX1_bodyFor_25 hl (by decide) rfl (fun ls hl => ?_)
                refine lv_iload hx hb dX1_bodyFor_27 (lv_at hl 0 rfl) ?_
                refine lv_iconst (v := (-1)) hx hb dX1_bodyFor_29 (by decide) ?_
                refine lv_icmp_eq (tgt := 36) hx hb dX1_bodyFor_30 (by decide) (fun c_21 => ?_) (fun c_21 => ?_)
                · obtain ⟨t_22, zt_22, yt_22⟩ := hZ.1.2
                  refine va_getsN hx hb zt_22 va_S.rf hown (va_Nw.use rfl (hN.2.1 (RX1, 58) (List.mem_of_getElem? (i := 1) rfl))) (fun _ h9 => h9) dX1_bodyFor_36 ?_
                  refine lv_iload_n hx hb dX1_bodyFor_39 rfl (lv_at hl 2 rfl) ?_
                  refine va_ti hx hb yt_22 va_S.rf (zf_in (by decide) (by decide)) (v := .int 0) (by decide) dX1_bodyFor_40 ?_
                  refine lv_istore_n (lv' := [(2, .int 0), (4, .int (-1)), (3, .int 1), (0, .int 3), (1, .int 2)]) hx hb dX1_bodyFor_41 rfl hl (by decide) rfl (fun ls hl => ?_)
                  refine lv_iinc (v := 2) (lv' := [(3, .int 2), (2, .int 0), (4, .int (-1)), (0, .int 3), (1, .int 2)]) hx hb dX1_bodyFor_42 hl (k := 2) rfl (by decide) (by decide) rfl (fun ls hl => ?_)
                  refine lv_goto (tgt := 4) hx hb dX1_bodyFor_45 (by decide) ?_
                  refine lv_iload_n hx hb dX1_bodyFor_4 rfl (lv_at hl 0 rfl) ?_
                  refine lv_bipush (v := 7) hx hb dX1_bodyFor_5 (by decide) ?_
                  refine lv_icmp_ge (tgt := 48) hx hb dX1_bodyFor_7 (by decide) (fun c_23 => ?_) (fun c_23 => ?_)
                  · exact absurd c_23 (by decide)
                  · refine lv_iload_n hx hb dX1_bodyFor_10 rfl (lv_at hl 1 rfl) ?_
                    refine lv_iconst (v := 0) hx hb dX1_bodyFor_11 (by decide) ?_
                    refine lv_bipush (v := 6) hx hb dX1_bodyFor_12 (by decide) ?_
                    refine zc_SN (As := [.int 0, .int 0, .int 6]) (rest := []) ⟨hx, hb, hml, hown, hts⟩ (c_within l D cI cJ cZ cP cS po (0) (0) (6) ) ⟨(va_cnB 3 hts gX1_bodyFor_X7_within_n44 rfl rfl rfl (hN.1 (RX1, 44, yX7_within) (List.mem_of_getElem? (i := 13) rfl)) (hts _ (List.mem_of_getElem? (i := 2) rfl)) dh_X7_within ⟨Nat.le_of_ble_eq_true rfl, Nat.le_of_ble_eq_true rfl⟩), (hts _ (List.mem_of_getElem? (i := 1) rfl)), trivial⟩ hK hN hZ rfl hl.1 rfl (Nat.le_of_ble_eq_true rfl) dX1_bodyFor_14 ⟨Nat.le_of_ble_eq_true rfl, Nat.le_of_ble_eq_true rfl⟩ (fun r_24 hr_24 => ?_)
                    rcases hr_24 with ⟨rfl, g_25⟩ | ⟨rfl, g_26, g_27⟩ | ⟨rfl, g_28, g_29⟩
                    · exfalso; omega
                    · exfalso; omega
                    · refine lv_if_eq (tgt := 48) hx hb dX1_bodyFor_17 (by decide) (fun c_30 => ?_) (fun c_30 => ?_)
                      · exact absurd c_30 (by decide)
                      · refine lv_iload_n hx hb dX1_bodyFor_20 rfl (lv_at hl 1 rfl) ?_
                        refine lv_iload_n hx hb dX1_bodyFor_21 rfl (lv_at hl 4 rfl) ?_
                        refine zc_S (As := [.int 0, .int 2]) (rest := []) ⟨hx, hb, hml, hown, hts⟩ (c_M_own_0_2 l D cI cJ cZ cP cS po  ) (va_cwS 2 hts gX1_bodyFor_X1_ownBody rfl rfl rfl dh_X1_ownBody ⟨Nat.le_of_ble_eq_true rfl, Nat.le_of_ble_eq_true rfl⟩) hK hN hZ rfl hl.1 rfl (Nat.le_of_ble_eq_true rfl) dX1_bodyFor_22 ⟨Nat.le_of_ble_eq_true rfl, Nat.le_of_ble_eq_true rfl⟩ (fun r_31 hr_31 => ?_)
                        obtain rfl := hr_31
                        refine lv_istore (lv' := [(4, .int 12), (3, .int 2), (2, .int 0), (0, .int 3), (1, .int 2)]) hx hb dX1_bodyFor_25 hl (by decide) rfl (fun ls hl => ?_)
                        refine lv_iload hx hb dX1_bodyFor_27 (lv_at hl 0 rfl) ?_
                        refine lv_iconst (v := (-1)) hx hb dX1_bodyFor_29 (by decide) ?_
                        refine lv_icmp_eq (tgt := 36) hx hb dX1_bodyFor_30 (by decide) (fun c_32 => ?_) (fun c_32 => ?_)
                        · exact absurd c_32 (by decide)
                        · refine lv_iload hx hb dX1_bodyFor_33 (lv_at hl 0 rfl) ?_
                          exact W.iret (v := 12) hx hb hr (fun t ht hW => ⟨12, rfl, rfl, ht⟩) (fun q hq => by cases hq) dX1_bodyFor_35
                · exact absurd c_21 (by decide)
        · exact absurd c_10 (by decide)
set_option maxHeartbeats 4000000 in
set_option maxRecDepth 100000 in
theorem c_M_bodyFor_4_0 (l : Launch) (D : va_G) (cI cJ cZ cP cS : ClassId) (po : zPool)   : Met l yX1_bodyFor wsX1_bodyFor ({ frames := 1, cells := 0, slots := 0, locals := 22 }) (va_Pc [.int 4, .int 0] (zR D (zKT cI cJ cZ cP cS) po [])) (vp_Si (fun r => r = 51)) 0 0 (fun _ => False) := by
  refine Met.ofW (cc := cX1_bodyFor) (maxL := 5) (ret := (some .int)) (by decide) rfl ?_
  intro p e s m args below meth c s₁ B hml hv
  obtain ⟨rfl, hP, hK, hN, hZ⟩ := hv
  have hx := B.exec
  have hb := B.bytes
  have hr := B.returns
  have hts := atoms_spec (ws := wsX1_bodyFor) B.pre
  have hown : s.vm.findClass RX1 = some m.cls := findClass_of_methodNamed B.named
  have hlocks := B.notSynchronized
  have hl := lv_entry ([.int 4, .int 0]) (n := 5) (Nat.le_of_ble_eq_true rfl)
  rw [lg_entry_eq]
  generalize (lg_sl ([.int 4, .int 0]) ++ List.replicate (5 - (lg_sl ([.int 4, .int 0])).length) Slot.unset).toArray = ls at hl ⊢
  replace hl : lv_has ls 5 [(0, .int 4), (1, .int 0)] := hl
  refine lv_iload_n hx hb dX1_bodyFor_0 rfl (lv_at hl 0 rfl) ?_
  refine lv_istore_n (lv' := [(2, .int 4), (0, .int 4), (1, .int 0)]) hx hb dX1_bodyFor_1 rfl hl (by decide) rfl (fun ls hl => ?_)
  refine lv_iconst (v := 0) hx hb dX1_bodyFor_2 (by decide) ?_
  refine lv_istore_n (lv' := [(3, .int 0), (2, .int 4), (0, .int 4), (1, .int 0)]) hx hb dX1_bodyFor_3 rfl hl (by decide) rfl (fun ls hl => ?_)
  refine lv_iload_n hx hb dX1_bodyFor_4 rfl (lv_at hl 0 rfl) ?_
  refine lv_bipush (v := 7) hx hb dX1_bodyFor_5 (by decide) ?_
  refine lv_icmp_ge (tgt := 48) hx hb dX1_bodyFor_7 (by decide) (fun c_1 => ?_) (fun c_1 => ?_)
  · exact absurd c_1 (by decide)
  · refine lv_iload_n hx hb dX1_bodyFor_10 rfl (lv_at hl 1 rfl) ?_
    refine lv_iconst (v := 0) hx hb dX1_bodyFor_11 (by decide) ?_
    refine lv_bipush (v := 6) hx hb dX1_bodyFor_12 (by decide) ?_
    have kc4 : (4 : Int32).toInt = 4 := by decide
    have kc0 : (0 : Int32).toInt = 0 := by decide
    have kc6 : (6 : Int32).toInt = 6 := by decide
    refine zc_SN (As := [.int 4, .int 0, .int 6]) (rest := []) ⟨hx, hb, hml, hown, hts⟩ (c_within l D cI cJ cZ cP cS po (4) (0) (6) ) ⟨(va_cnB 3 hts gX1_bodyFor_X7_within_n44 rfl rfl rfl (hN.1 (RX1, 44, yX7_within) (List.mem_of_getElem? (i := 13) rfl)) (hts _ (List.mem_of_getElem? (i := 2) rfl)) dh_X7_within ⟨Nat.le_of_ble_eq_true rfl, Nat.le_of_ble_eq_true rfl⟩), (hts _ (List.mem_of_getElem? (i := 1) rfl)), trivial⟩ hK hN hZ rfl hl.1 rfl (Nat.le_of_ble_eq_true rfl) dX1_bodyFor_14 ⟨Nat.le_of_ble_eq_true rfl, Nat.le_of_ble_eq_true rfl⟩ (fun r_2 hr_2 => ?_)
    rcases hr_2 with ⟨rfl, g_3⟩ | ⟨rfl, g_4, g_5⟩ | ⟨rfl, g_6, g_7⟩
    · exfalso; omega
    · exfalso; omega
    · refine lv_if_eq (tgt := 48) hx hb dX1_bodyFor_17 (by decide) (fun c_8 => ?_) (fun c_8 => ?_)
      · exact absurd c_8 (by decide)
      · refine lv_iload_n hx hb dX1_bodyFor_20 rfl (lv_at hl 1 rfl) ?_
        refine lv_iload_n hx hb dX1_bodyFor_21 rfl (lv_at hl 3 rfl) ?_
        refine zc_S (As := [.int 4, .int 0]) (rest := []) ⟨hx, hb, hml, hown, hts⟩ (c_M_own_4_0 l D cI cJ cZ cP cS po  ) (va_cwS 2 hts gX1_bodyFor_X1_ownBody rfl rfl rfl dh_X1_ownBody ⟨Nat.le_of_ble_eq_true rfl, Nat.le_of_ble_eq_true rfl⟩) hK hN hZ rfl hl.1 rfl (Nat.le_of_ble_eq_true rfl) dX1_bodyFor_22 ⟨Nat.le_of_ble_eq_true rfl, Nat.le_of_ble_eq_true rfl⟩ (fun r_9 hr_9 => ?_)
        obtain rfl := hr_9
        refine lv_istore (lv' := [(4, .int 51), (3, .int 0), (2, .int 4), (0, .int 4), (1, .int 0)]) hx hb dX1_bodyFor_25 hl (by decide) rfl (fun ls hl => ?_)
        refine lv_iload hx hb dX1_bodyFor_27 (lv_at hl 0 rfl) ?_
        refine lv_iconst (v := (-1)) hx hb dX1_bodyFor_29 (by decide) ?_
        refine lv_icmp_eq (tgt := 36) hx hb dX1_bodyFor_30 (by decide) (fun c_10 => ?_) (fun c_10 => ?_)
        · exact absurd c_10 (by decide)
        · refine lv_iload hx hb dX1_bodyFor_33 (lv_at hl 0 rfl) ?_
          exact W.iret (v := 51) hx hb hr (fun t ht hW => ⟨51, rfl, rfl, ht⟩) (fun q hq => by cases hq) dX1_bodyFor_35
set_option maxHeartbeats 4000000 in
set_option maxRecDepth 100000 in
theorem c_M_bodyFor_4_1 (l : Launch) (D : va_G) (cI cJ cZ cP cS : ClassId) (po : zPool)   : Met l yX1_bodyFor wsX1_bodyFor ({ frames := 1, cells := 0, slots := 0, locals := 22 }) (va_Pc [.int 4, .int 1] (zR D (zKT cI cJ cZ cP cS) po [])) (vp_Si (fun r => r = 11)) 0 0 (fun _ => False) := by
  refine Met.ofW (cc := cX1_bodyFor) (maxL := 5) (ret := (some .int)) (by decide) rfl ?_
  intro p e s m args below meth c s₁ B hml hv
  obtain ⟨rfl, hP, hK, hN, hZ⟩ := hv
  have hx := B.exec
  have hb := B.bytes
  have hr := B.returns
  have hts := atoms_spec (ws := wsX1_bodyFor) B.pre
  have hown : s.vm.findClass RX1 = some m.cls := findClass_of_methodNamed B.named
  have hlocks := B.notSynchronized
  have hl := lv_entry ([.int 4, .int 1]) (n := 5) (Nat.le_of_ble_eq_true rfl)
  rw [lg_entry_eq]
  generalize (lg_sl ([.int 4, .int 1]) ++ List.replicate (5 - (lg_sl ([.int 4, .int 1])).length) Slot.unset).toArray = ls at hl ⊢
  replace hl : lv_has ls 5 [(0, .int 4), (1, .int 1)] := hl
  refine lv_iload_n hx hb dX1_bodyFor_0 rfl (lv_at hl 0 rfl) ?_
  refine lv_istore_n (lv' := [(2, .int 4), (0, .int 4), (1, .int 1)]) hx hb dX1_bodyFor_1 rfl hl (by decide) rfl (fun ls hl => ?_)
  refine lv_iconst (v := 0) hx hb dX1_bodyFor_2 (by decide) ?_
  refine lv_istore_n (lv' := [(3, .int 0), (2, .int 4), (0, .int 4), (1, .int 1)]) hx hb dX1_bodyFor_3 rfl hl (by decide) rfl (fun ls hl => ?_)
  refine lv_iload_n hx hb dX1_bodyFor_4 rfl (lv_at hl 0 rfl) ?_
  refine lv_bipush (v := 7) hx hb dX1_bodyFor_5 (by decide) ?_
  refine lv_icmp_ge (tgt := 48) hx hb dX1_bodyFor_7 (by decide) (fun c_1 => ?_) (fun c_1 => ?_)
  · exact absurd c_1 (by decide)
  · refine lv_iload_n hx hb dX1_bodyFor_10 rfl (lv_at hl 1 rfl) ?_
    refine lv_iconst (v := 0) hx hb dX1_bodyFor_11 (by decide) ?_
    refine lv_bipush (v := 6) hx hb dX1_bodyFor_12 (by decide) ?_
    have kc4 : (4 : Int32).toInt = 4 := by decide
    have kc0 : (0 : Int32).toInt = 0 := by decide
    have kc6 : (6 : Int32).toInt = 6 := by decide
    refine zc_SN (As := [.int 4, .int 0, .int 6]) (rest := []) ⟨hx, hb, hml, hown, hts⟩ (c_within l D cI cJ cZ cP cS po (4) (0) (6) ) ⟨(va_cnB 3 hts gX1_bodyFor_X7_within_n44 rfl rfl rfl (hN.1 (RX1, 44, yX7_within) (List.mem_of_getElem? (i := 13) rfl)) (hts _ (List.mem_of_getElem? (i := 2) rfl)) dh_X7_within ⟨Nat.le_of_ble_eq_true rfl, Nat.le_of_ble_eq_true rfl⟩), (hts _ (List.mem_of_getElem? (i := 1) rfl)), trivial⟩ hK hN hZ rfl hl.1 rfl (Nat.le_of_ble_eq_true rfl) dX1_bodyFor_14 ⟨Nat.le_of_ble_eq_true rfl, Nat.le_of_ble_eq_true rfl⟩ (fun r_2 hr_2 => ?_)
    rcases hr_2 with ⟨rfl, g_3⟩ | ⟨rfl, g_4, g_5⟩ | ⟨rfl, g_6, g_7⟩
    · exfalso; omega
    · exfalso; omega
    · refine lv_if_eq (tgt := 48) hx hb dX1_bodyFor_17 (by decide) (fun c_8 => ?_) (fun c_8 => ?_)
      · exact absurd c_8 (by decide)
      · refine lv_iload_n hx hb dX1_bodyFor_20 rfl (lv_at hl 1 rfl) ?_
        refine lv_iload_n hx hb dX1_bodyFor_21 rfl (lv_at hl 3 rfl) ?_
        refine zc_S (As := [.int 4, .int 1]) (rest := []) ⟨hx, hb, hml, hown, hts⟩ (c_M_own_4_1 l D cI cJ cZ cP cS po  ) (va_cwS 2 hts gX1_bodyFor_X1_ownBody rfl rfl rfl dh_X1_ownBody ⟨Nat.le_of_ble_eq_true rfl, Nat.le_of_ble_eq_true rfl⟩) hK hN hZ rfl hl.1 rfl (Nat.le_of_ble_eq_true rfl) dX1_bodyFor_22 ⟨Nat.le_of_ble_eq_true rfl, Nat.le_of_ble_eq_true rfl⟩ (fun r_9 hr_9 => ?_)
        obtain rfl := hr_9
        refine lv_istore (lv' := [(4, .int (-1)), (3, .int 0), (2, .int 4), (0, .int 4), (1, .int 1)]) hx hb dX1_bodyFor_25 hl (by decide) rfl (fun ls hl => ?_)
        refine lv_iload hx hb dX1_bodyFor_27 (lv_at hl 0 rfl) ?_
        refine lv_iconst (v := (-1)) hx hb dX1_bodyFor_29 (by decide) ?_
        refine lv_icmp_eq (tgt := 36) hx hb dX1_bodyFor_30 (by decide) (fun c_10 => ?_) (fun c_10 => ?_)
        · obtain ⟨t_11, zt_11, yt_11⟩ := hZ.1.2
          refine va_getsN hx hb zt_11 va_S.rf hown (va_Nw.use rfl (hN.2.1 (RX1, 58) (List.mem_of_getElem? (i := 1) rfl))) (fun _ h9 => h9) dX1_bodyFor_36 ?_
          refine lv_iload_n hx hb dX1_bodyFor_39 rfl (lv_at hl 2 rfl) ?_
          refine va_ti hx hb yt_11 va_S.rf (zf_in (by decide) (by decide)) (v := .int 0) (by decide) dX1_bodyFor_40 ?_
          refine lv_istore_n (lv' := [(2, .int 0), (4, .int (-1)), (3, .int 0), (0, .int 4), (1, .int 1)]) hx hb dX1_bodyFor_41 rfl hl (by decide) rfl (fun ls hl => ?_)
          refine lv_iinc (v := 1) (lv' := [(3, .int 1), (2, .int 0), (4, .int (-1)), (0, .int 4), (1, .int 1)]) hx hb dX1_bodyFor_42 hl (k := 2) rfl (by decide) (by decide) rfl (fun ls hl => ?_)
          refine lv_goto (tgt := 4) hx hb dX1_bodyFor_45 (by decide) ?_
          refine lv_iload_n hx hb dX1_bodyFor_4 rfl (lv_at hl 0 rfl) ?_
          refine lv_bipush (v := 7) hx hb dX1_bodyFor_5 (by decide) ?_
          refine lv_icmp_ge (tgt := 48) hx hb dX1_bodyFor_7 (by decide) (fun c_12 => ?_) (fun c_12 => ?_)
          · exact absurd c_12 (by decide)
          · refine lv_iload_n hx hb dX1_bodyFor_10 rfl (lv_at hl 1 rfl) ?_
            refine lv_iconst (v := 0) hx hb dX1_bodyFor_11 (by decide) ?_
            refine lv_bipush (v := 6) hx hb dX1_bodyFor_12 (by decide) ?_
            refine zc_SN (As := [.int 0, .int 0, .int 6]) (rest := []) ⟨hx, hb, hml, hown, hts⟩ (c_within l D cI cJ cZ cP cS po (0) (0) (6) ) ⟨(va_cnB 3 hts gX1_bodyFor_X7_within_n44 rfl rfl rfl (hN.1 (RX1, 44, yX7_within) (List.mem_of_getElem? (i := 13) rfl)) (hts _ (List.mem_of_getElem? (i := 2) rfl)) dh_X7_within ⟨Nat.le_of_ble_eq_true rfl, Nat.le_of_ble_eq_true rfl⟩), (hts _ (List.mem_of_getElem? (i := 1) rfl)), trivial⟩ hK hN hZ rfl hl.1 rfl (Nat.le_of_ble_eq_true rfl) dX1_bodyFor_14 ⟨Nat.le_of_ble_eq_true rfl, Nat.le_of_ble_eq_true rfl⟩ (fun r_13 hr_13 => ?_)
            rcases hr_13 with ⟨rfl, g_14⟩ | ⟨rfl, g_15, g_16⟩ | ⟨rfl, g_17, g_18⟩
            · exfalso; omega
            · exfalso; omega
            · refine lv_if_eq (tgt := 48) hx hb dX1_bodyFor_17 (by decide) (fun c_19 => ?_) (fun c_19 => ?_)
              · exact absurd c_19 (by decide)
              · refine lv_iload_n hx hb dX1_bodyFor_20 rfl (lv_at hl 1 rfl) ?_
                refine lv_iload_n hx hb dX1_bodyFor_21 rfl (lv_at hl 4 rfl) ?_
                refine zc_S (As := [.int 0, .int 1]) (rest := []) ⟨hx, hb, hml, hown, hts⟩ (c_M_own_0_1 l D cI cJ cZ cP cS po  ) (va_cwS 2 hts gX1_bodyFor_X1_ownBody rfl rfl rfl dh_X1_ownBody ⟨Nat.le_of_ble_eq_true rfl, Nat.le_of_ble_eq_true rfl⟩) hK hN hZ rfl hl.1 rfl (Nat.le_of_ble_eq_true rfl) dX1_bodyFor_22 ⟨Nat.le_of_ble_eq_true rfl, Nat.le_of_ble_eq_true rfl⟩ (fun r_20 hr_20 => ?_)
                obtain rfl := hr_20
                refine lv_istore (lv' := [(4, .int 11), (3, .int 1), (2, .int 0), (0, .int 4), (1, .int 1)]) hx hb dX1_bodyFor_25 hl (by decide) rfl (fun ls hl => ?_)
                refine lv_iload hx hb dX1_bodyFor_27 (lv_at hl 0 rfl) ?_
                refine lv_iconst (v := (-1)) hx hb dX1_bodyFor_29 (by decide) ?_
                refine lv_icmp_eq (tgt := 36) hx hb dX1_bodyFor_30 (by decide) (fun c_21 => ?_) (fun c_21 => ?_)
                · exact absurd c_21 (by decide)
                · refine lv_iload hx hb dX1_bodyFor_33 (lv_at hl 0 rfl) ?_
                  exact W.iret (v := 11) hx hb hr (fun t ht hW => ⟨11, rfl, rfl, ht⟩) (fun q hq => by cases hq) dX1_bodyFor_35
        · exact absurd c_10 (by decide)
set_option maxHeartbeats 4000000 in
set_option maxRecDepth 100000 in
theorem c_M_bodyFor_4_2 (l : Launch) (D : va_G) (cI cJ cZ cP cS : ClassId) (po : zPool)   : Met l yX1_bodyFor wsX1_bodyFor ({ frames := 1, cells := 0, slots := 0, locals := 22 }) (va_Pc [.int 4, .int 2] (zR D (zKT cI cJ cZ cP cS) po [])) (vp_Si (fun r => r = 50)) 0 0 (fun _ => False) := by
  refine Met.ofW (cc := cX1_bodyFor) (maxL := 5) (ret := (some .int)) (by decide) rfl ?_
  intro p e s m args below meth c s₁ B hml hv
  obtain ⟨rfl, hP, hK, hN, hZ⟩ := hv
  have hx := B.exec
  have hb := B.bytes
  have hr := B.returns
  have hts := atoms_spec (ws := wsX1_bodyFor) B.pre
  have hown : s.vm.findClass RX1 = some m.cls := findClass_of_methodNamed B.named
  have hlocks := B.notSynchronized
  have hl := lv_entry ([.int 4, .int 2]) (n := 5) (Nat.le_of_ble_eq_true rfl)
  rw [lg_entry_eq]
  generalize (lg_sl ([.int 4, .int 2]) ++ List.replicate (5 - (lg_sl ([.int 4, .int 2])).length) Slot.unset).toArray = ls at hl ⊢
  replace hl : lv_has ls 5 [(0, .int 4), (1, .int 2)] := hl
  refine lv_iload_n hx hb dX1_bodyFor_0 rfl (lv_at hl 0 rfl) ?_
  refine lv_istore_n (lv' := [(2, .int 4), (0, .int 4), (1, .int 2)]) hx hb dX1_bodyFor_1 rfl hl (by decide) rfl (fun ls hl => ?_)
  refine lv_iconst (v := 0) hx hb dX1_bodyFor_2 (by decide) ?_
  refine lv_istore_n (lv' := [(3, .int 0), (2, .int 4), (0, .int 4), (1, .int 2)]) hx hb dX1_bodyFor_3 rfl hl (by decide) rfl (fun ls hl => ?_)
  refine lv_iload_n hx hb dX1_bodyFor_4 rfl (lv_at hl 0 rfl) ?_
  refine lv_bipush (v := 7) hx hb dX1_bodyFor_5 (by decide) ?_
  refine lv_icmp_ge (tgt := 48) hx hb dX1_bodyFor_7 (by decide) (fun c_1 => ?_) (fun c_1 => ?_)
  · exact absurd c_1 (by decide)
  · refine lv_iload_n hx hb dX1_bodyFor_10 rfl (lv_at hl 1 rfl) ?_
    refine lv_iconst (v := 0) hx hb dX1_bodyFor_11 (by decide) ?_
    refine lv_bipush (v := 6) hx hb dX1_bodyFor_12 (by decide) ?_
    have kc4 : (4 : Int32).toInt = 4 := by decide
    have kc0 : (0 : Int32).toInt = 0 := by decide
    have kc6 : (6 : Int32).toInt = 6 := by decide
    refine zc_SN (As := [.int 4, .int 0, .int 6]) (rest := []) ⟨hx, hb, hml, hown, hts⟩ (c_within l D cI cJ cZ cP cS po (4) (0) (6) ) ⟨(va_cnB 3 hts gX1_bodyFor_X7_within_n44 rfl rfl rfl (hN.1 (RX1, 44, yX7_within) (List.mem_of_getElem? (i := 13) rfl)) (hts _ (List.mem_of_getElem? (i := 2) rfl)) dh_X7_within ⟨Nat.le_of_ble_eq_true rfl, Nat.le_of_ble_eq_true rfl⟩), (hts _ (List.mem_of_getElem? (i := 1) rfl)), trivial⟩ hK hN hZ rfl hl.1 rfl (Nat.le_of_ble_eq_true rfl) dX1_bodyFor_14 ⟨Nat.le_of_ble_eq_true rfl, Nat.le_of_ble_eq_true rfl⟩ (fun r_2 hr_2 => ?_)
    rcases hr_2 with ⟨rfl, g_3⟩ | ⟨rfl, g_4, g_5⟩ | ⟨rfl, g_6, g_7⟩
    · exfalso; omega
    · exfalso; omega
    · refine lv_if_eq (tgt := 48) hx hb dX1_bodyFor_17 (by decide) (fun c_8 => ?_) (fun c_8 => ?_)
      · exact absurd c_8 (by decide)
      · refine lv_iload_n hx hb dX1_bodyFor_20 rfl (lv_at hl 1 rfl) ?_
        refine lv_iload_n hx hb dX1_bodyFor_21 rfl (lv_at hl 3 rfl) ?_
        refine zc_S (As := [.int 4, .int 2]) (rest := []) ⟨hx, hb, hml, hown, hts⟩ (c_M_own_4_2 l D cI cJ cZ cP cS po  ) (va_cwS 2 hts gX1_bodyFor_X1_ownBody rfl rfl rfl dh_X1_ownBody ⟨Nat.le_of_ble_eq_true rfl, Nat.le_of_ble_eq_true rfl⟩) hK hN hZ rfl hl.1 rfl (Nat.le_of_ble_eq_true rfl) dX1_bodyFor_22 ⟨Nat.le_of_ble_eq_true rfl, Nat.le_of_ble_eq_true rfl⟩ (fun r_9 hr_9 => ?_)
        obtain rfl := hr_9
        refine lv_istore (lv' := [(4, .int 50), (3, .int 0), (2, .int 4), (0, .int 4), (1, .int 2)]) hx hb dX1_bodyFor_25 hl (by decide) rfl (fun ls hl => ?_)
        refine lv_iload hx hb dX1_bodyFor_27 (lv_at hl 0 rfl) ?_
        refine lv_iconst (v := (-1)) hx hb dX1_bodyFor_29 (by decide) ?_
        refine lv_icmp_eq (tgt := 36) hx hb dX1_bodyFor_30 (by decide) (fun c_10 => ?_) (fun c_10 => ?_)
        · exact absurd c_10 (by decide)
        · refine lv_iload hx hb dX1_bodyFor_33 (lv_at hl 0 rfl) ?_
          exact W.iret (v := 50) hx hb hr (fun t ht hW => ⟨50, rfl, rfl, ht⟩) (fun q hq => by cases hq) dX1_bodyFor_35
set_option maxHeartbeats 4000000 in
set_option maxRecDepth 100000 in
theorem c_M_bodyFor_5_0 (l : Launch) (D : va_G) (cI cJ cZ cP cS : ClassId) (po : zPool)   : Met l yX1_bodyFor wsX1_bodyFor ({ frames := 1, cells := 0, slots := 0, locals := 22 }) (va_Pc [.int 5, .int 0] (zR D (zKT cI cJ cZ cP cS) po [])) (vp_Si (fun r => r = 10)) 0 0 (fun _ => False) := by
  refine Met.ofW (cc := cX1_bodyFor) (maxL := 5) (ret := (some .int)) (by decide) rfl ?_
  intro p e s m args below meth c s₁ B hml hv
  obtain ⟨rfl, hP, hK, hN, hZ⟩ := hv
  have hx := B.exec
  have hb := B.bytes
  have hr := B.returns
  have hts := atoms_spec (ws := wsX1_bodyFor) B.pre
  have hown : s.vm.findClass RX1 = some m.cls := findClass_of_methodNamed B.named
  have hlocks := B.notSynchronized
  have hl := lv_entry ([.int 5, .int 0]) (n := 5) (Nat.le_of_ble_eq_true rfl)
  rw [lg_entry_eq]
  generalize (lg_sl ([.int 5, .int 0]) ++ List.replicate (5 - (lg_sl ([.int 5, .int 0])).length) Slot.unset).toArray = ls at hl ⊢
  replace hl : lv_has ls 5 [(0, .int 5), (1, .int 0)] := hl
  refine lv_iload_n hx hb dX1_bodyFor_0 rfl (lv_at hl 0 rfl) ?_
  refine lv_istore_n (lv' := [(2, .int 5), (0, .int 5), (1, .int 0)]) hx hb dX1_bodyFor_1 rfl hl (by decide) rfl (fun ls hl => ?_)
  refine lv_iconst (v := 0) hx hb dX1_bodyFor_2 (by decide) ?_
  refine lv_istore_n (lv' := [(3, .int 0), (2, .int 5), (0, .int 5), (1, .int 0)]) hx hb dX1_bodyFor_3 rfl hl (by decide) rfl (fun ls hl => ?_)
  refine lv_iload_n hx hb dX1_bodyFor_4 rfl (lv_at hl 0 rfl) ?_
  refine lv_bipush (v := 7) hx hb dX1_bodyFor_5 (by decide) ?_
  refine lv_icmp_ge (tgt := 48) hx hb dX1_bodyFor_7 (by decide) (fun c_1 => ?_) (fun c_1 => ?_)
  · exact absurd c_1 (by decide)
  · refine lv_iload_n hx hb dX1_bodyFor_10 rfl (lv_at hl 1 rfl) ?_
    refine lv_iconst (v := 0) hx hb dX1_bodyFor_11 (by decide) ?_
    refine lv_bipush (v := 6) hx hb dX1_bodyFor_12 (by decide) ?_
    have kc5 : (5 : Int32).toInt = 5 := by decide
    have kc0 : (0 : Int32).toInt = 0 := by decide
    have kc6 : (6 : Int32).toInt = 6 := by decide
    refine zc_SN (As := [.int 5, .int 0, .int 6]) (rest := []) ⟨hx, hb, hml, hown, hts⟩ (c_within l D cI cJ cZ cP cS po (5) (0) (6) ) ⟨(va_cnB 3 hts gX1_bodyFor_X7_within_n44 rfl rfl rfl (hN.1 (RX1, 44, yX7_within) (List.mem_of_getElem? (i := 13) rfl)) (hts _ (List.mem_of_getElem? (i := 2) rfl)) dh_X7_within ⟨Nat.le_of_ble_eq_true rfl, Nat.le_of_ble_eq_true rfl⟩), (hts _ (List.mem_of_getElem? (i := 1) rfl)), trivial⟩ hK hN hZ rfl hl.1 rfl (Nat.le_of_ble_eq_true rfl) dX1_bodyFor_14 ⟨Nat.le_of_ble_eq_true rfl, Nat.le_of_ble_eq_true rfl⟩ (fun r_2 hr_2 => ?_)
    rcases hr_2 with ⟨rfl, g_3⟩ | ⟨rfl, g_4, g_5⟩ | ⟨rfl, g_6, g_7⟩
    · exfalso; omega
    · exfalso; omega
    · refine lv_if_eq (tgt := 48) hx hb dX1_bodyFor_17 (by decide) (fun c_8 => ?_) (fun c_8 => ?_)
      · exact absurd c_8 (by decide)
      · refine lv_iload_n hx hb dX1_bodyFor_20 rfl (lv_at hl 1 rfl) ?_
        refine lv_iload_n hx hb dX1_bodyFor_21 rfl (lv_at hl 3 rfl) ?_
        refine zc_S (As := [.int 5, .int 0]) (rest := []) ⟨hx, hb, hml, hown, hts⟩ (c_M_own_5_0 l D cI cJ cZ cP cS po  ) (va_cwS 2 hts gX1_bodyFor_X1_ownBody rfl rfl rfl dh_X1_ownBody ⟨Nat.le_of_ble_eq_true rfl, Nat.le_of_ble_eq_true rfl⟩) hK hN hZ rfl hl.1 rfl (Nat.le_of_ble_eq_true rfl) dX1_bodyFor_22 ⟨Nat.le_of_ble_eq_true rfl, Nat.le_of_ble_eq_true rfl⟩ (fun r_9 hr_9 => ?_)
        obtain rfl := hr_9
        refine lv_istore (lv' := [(4, .int (-1)), (3, .int 0), (2, .int 5), (0, .int 5), (1, .int 0)]) hx hb dX1_bodyFor_25 hl (by decide) rfl (fun ls hl => ?_)
        refine lv_iload hx hb dX1_bodyFor_27 (lv_at hl 0 rfl) ?_
        refine lv_iconst (v := (-1)) hx hb dX1_bodyFor_29 (by decide) ?_
        refine lv_icmp_eq (tgt := 36) hx hb dX1_bodyFor_30 (by decide) (fun c_10 => ?_) (fun c_10 => ?_)
        · obtain ⟨t_11, zt_11, yt_11⟩ := hZ.1.2
          refine va_getsN hx hb zt_11 va_S.rf hown (va_Nw.use rfl (hN.2.1 (RX1, 58) (List.mem_of_getElem? (i := 1) rfl))) (fun _ h9 => h9) dX1_bodyFor_36 ?_
          refine lv_iload_n hx hb dX1_bodyFor_39 rfl (lv_at hl 2 rfl) ?_
          refine va_ti hx hb yt_11 va_S.rf (zf_in (by decide) (by decide)) (v := .int 2) (by decide) dX1_bodyFor_40 ?_
          refine lv_istore_n (lv' := [(2, .int 2), (4, .int (-1)), (3, .int 0), (0, .int 5), (1, .int 0)]) hx hb dX1_bodyFor_41 rfl hl (by decide) rfl (fun ls hl => ?_)
          refine lv_iinc (v := 1) (lv' := [(3, .int 1), (2, .int 2), (4, .int (-1)), (0, .int 5), (1, .int 0)]) hx hb dX1_bodyFor_42 hl (k := 2) rfl (by decide) (by decide) rfl (fun ls hl => ?_)
          refine lv_goto (tgt := 4) hx hb dX1_bodyFor_45 (by decide) ?_
          refine lv_iload_n hx hb dX1_bodyFor_4 rfl (lv_at hl 0 rfl) ?_
          refine lv_bipush (v := 7) hx hb dX1_bodyFor_5 (by decide) ?_
          refine lv_icmp_ge (tgt := 48) hx hb dX1_bodyFor_7 (by decide) (fun c_12 => ?_) (fun c_12 => ?_)
          · exact absurd c_12 (by decide)
          · refine lv_iload_n hx hb dX1_bodyFor_10 rfl (lv_at hl 1 rfl) ?_
            refine lv_iconst (v := 0) hx hb dX1_bodyFor_11 (by decide) ?_
            refine lv_bipush (v := 6) hx hb dX1_bodyFor_12 (by decide) ?_
            have kc2 : (2 : Int32).toInt = 2 := by decide
            refine zc_SN (As := [.int 2, .int 0, .int 6]) (rest := []) ⟨hx, hb, hml, hown, hts⟩ (c_within l D cI cJ cZ cP cS po (2) (0) (6) ) ⟨(va_cnB 3 hts gX1_bodyFor_X7_within_n44 rfl rfl rfl (hN.1 (RX1, 44, yX7_within) (List.mem_of_getElem? (i := 13) rfl)) (hts _ (List.mem_of_getElem? (i := 2) rfl)) dh_X7_within ⟨Nat.le_of_ble_eq_true rfl, Nat.le_of_ble_eq_true rfl⟩), (hts _ (List.mem_of_getElem? (i := 1) rfl)), trivial⟩ hK hN hZ rfl hl.1 rfl (Nat.le_of_ble_eq_true rfl) dX1_bodyFor_14 ⟨Nat.le_of_ble_eq_true rfl, Nat.le_of_ble_eq_true rfl⟩ (fun r_13 hr_13 => ?_)
            rcases hr_13 with ⟨rfl, g_14⟩ | ⟨rfl, g_15, g_16⟩ | ⟨rfl, g_17, g_18⟩
            · exfalso; omega
            · exfalso; omega
            · refine lv_if_eq (tgt := 48) hx hb dX1_bodyFor_17 (by decide) (fun c_19 => ?_) (fun c_19 => ?_)
              · exact absurd c_19 (by decide)
              · refine lv_iload_n hx hb dX1_bodyFor_20 rfl (lv_at hl 1 rfl) ?_
                refine lv_iload_n hx hb dX1_bodyFor_21 rfl (lv_at hl 4 rfl) ?_
                refine zc_S (As := [.int 2, .int 0]) (rest := []) ⟨hx, hb, hml, hown, hts⟩ (c_M_own_2_0 l D cI cJ cZ cP cS po  ) (va_cwS 2 hts gX1_bodyFor_X1_ownBody rfl rfl rfl dh_X1_ownBody ⟨Nat.le_of_ble_eq_true rfl, Nat.le_of_ble_eq_true rfl⟩) hK hN hZ rfl hl.1 rfl (Nat.le_of_ble_eq_true rfl) dX1_bodyFor_22 ⟨Nat.le_of_ble_eq_true rfl, Nat.le_of_ble_eq_true rfl⟩ (fun r_20 hr_20 => ?_)
                obtain rfl := hr_20
                refine lv_istore (lv' := [(4, .int (-1)), (3, .int 1), (2, .int 2), (0, .int 5), (1, .int 0)]) hx hb dX1_bodyFor_25 hl (by decide) rfl (fun ls hl => ?_)
                refine lv_iload hx hb dX1_bodyFor_27 (lv_at hl 0 rfl) ?_
                refine lv_iconst (v := (-1)) hx hb dX1_bodyFor_29 (by decide) ?_
                refine lv_icmp_eq (tgt := 36) hx hb dX1_bodyFor_30 (by decide) (fun c_21 => ?_) (fun c_21 => ?_)
                · obtain ⟨t_22, zt_22, yt_22⟩ := hZ.1.2
                  refine va_getsN hx hb zt_22 va_S.rf hown (va_Nw.use rfl (hN.2.1 (RX1, 58) (List.mem_of_getElem? (i := 1) rfl))) (fun _ h9 => h9) dX1_bodyFor_36 ?_
                  refine lv_iload_n hx hb dX1_bodyFor_39 rfl (lv_at hl 2 rfl) ?_
                  refine va_ti hx hb yt_22 va_S.rf (zf_in (by decide) (by decide)) (v := .int 0) (by decide) dX1_bodyFor_40 ?_
                  refine lv_istore_n (lv' := [(2, .int 0), (4, .int (-1)), (3, .int 1), (0, .int 5), (1, .int 0)]) hx hb dX1_bodyFor_41 rfl hl (by decide) rfl (fun ls hl => ?_)
                  refine lv_iinc (v := 2) (lv' := [(3, .int 2), (2, .int 0), (4, .int (-1)), (0, .int 5), (1, .int 0)]) hx hb dX1_bodyFor_42 hl (k := 2) rfl (by decide) (by decide) rfl (fun ls hl => ?_)
                  refine lv_goto (tgt := 4) hx hb dX1_bodyFor_45 (by decide) ?_
                  refine lv_iload_n hx hb dX1_bodyFor_4 rfl (lv_at hl 0 rfl) ?_
                  refine lv_bipush (v := 7) hx hb dX1_bodyFor_5 (by decide) ?_
                  refine lv_icmp_ge (tgt := 48) hx hb dX1_bodyFor_7 (by decide) (fun c_23 => ?_) (fun c_23 => ?_)
                  · exact absurd c_23 (by decide)
                  · refine lv_iload_n hx hb dX1_bodyFor_10 rfl (lv_at hl 1 rfl) ?_
                    refine lv_iconst (v := 0) hx hb dX1_bodyFor_11 (by decide) ?_
                    refine lv_bipush (v := 6) hx hb dX1_bodyFor_12 (by decide) ?_
                    refine zc_SN (As := [.int 0, .int 0, .int 6]) (rest := []) ⟨hx, hb, hml, hown, hts⟩ (c_within l D cI cJ cZ cP cS po (0) (0) (6) ) ⟨(va_cnB 3 hts gX1_bodyFor_X7_within_n44 rfl rfl rfl (hN.1 (RX1, 44, yX7_within) (List.mem_of_getElem? (i := 13) rfl)) (hts _ (List.mem_of_getElem? (i := 2) rfl)) dh_X7_within ⟨Nat.le_of_ble_eq_true rfl, Nat.le_of_ble_eq_true rfl⟩), (hts _ (List.mem_of_getElem? (i := 1) rfl)), trivial⟩ hK hN hZ rfl hl.1 rfl (Nat.le_of_ble_eq_true rfl) dX1_bodyFor_14 ⟨Nat.le_of_ble_eq_true rfl, Nat.le_of_ble_eq_true rfl⟩ (fun r_24 hr_24 => ?_)
                    rcases hr_24 with ⟨rfl, g_25⟩ | ⟨rfl, g_26, g_27⟩ | ⟨rfl, g_28, g_29⟩
                    · exfalso; omega
                    · exfalso; omega
                    · refine lv_if_eq (tgt := 48) hx hb dX1_bodyFor_17 (by decide) (fun c_30 => ?_) (fun c_30 => ?_)
                      · exact absurd c_30 (by decide)
                      · refine lv_iload_n hx hb dX1_bodyFor_20 rfl (lv_at hl 1 rfl) ?_
                        refine lv_iload_n hx hb dX1_bodyFor_21 rfl (lv_at hl 4 rfl) ?_
                        refine zc_S (As := [.int 0, .int 0]) (rest := []) ⟨hx, hb, hml, hown, hts⟩ (c_M_own_0_0 l D cI cJ cZ cP cS po  ) (va_cwS 2 hts gX1_bodyFor_X1_ownBody rfl rfl rfl dh_X1_ownBody ⟨Nat.le_of_ble_eq_true rfl, Nat.le_of_ble_eq_true rfl⟩) hK hN hZ rfl hl.1 rfl (Nat.le_of_ble_eq_true rfl) dX1_bodyFor_22 ⟨Nat.le_of_ble_eq_true rfl, Nat.le_of_ble_eq_true rfl⟩ (fun r_31 hr_31 => ?_)
                        obtain rfl := hr_31
                        refine lv_istore (lv' := [(4, .int 10), (3, .int 2), (2, .int 0), (0, .int 5), (1, .int 0)]) hx hb dX1_bodyFor_25 hl (by decide) rfl (fun ls hl => ?_)
                        refine lv_iload hx hb dX1_bodyFor_27 (lv_at hl 0 rfl) ?_
                        refine lv_iconst (v := (-1)) hx hb dX1_bodyFor_29 (by decide) ?_
                        refine lv_icmp_eq (tgt := 36) hx hb dX1_bodyFor_30 (by decide) (fun c_32 => ?_) (fun c_32 => ?_)
                        · exact absurd c_32 (by decide)
                        · refine lv_iload hx hb dX1_bodyFor_33 (lv_at hl 0 rfl) ?_
                          exact W.iret (v := 10) hx hb hr (fun t ht hW => ⟨10, rfl, rfl, ht⟩) (fun q hq => by cases hq) dX1_bodyFor_35
                · exact absurd c_21 (by decide)
        · exact absurd c_10 (by decide)
set_option maxHeartbeats 4000000 in
set_option maxRecDepth 100000 in
theorem c_M_bodyFor_5_1 (l : Launch) (D : va_G) (cI cJ cZ cP cS : ClassId) (po : zPool)   : Met l yX1_bodyFor wsX1_bodyFor ({ frames := 1, cells := 0, slots := 0, locals := 22 }) (va_Pc [.int 5, .int 1] (zR D (zKT cI cJ cZ cP cS) po [])) (vp_Si (fun r => r = 30)) 0 0 (fun _ => False) := by
  refine Met.ofW (cc := cX1_bodyFor) (maxL := 5) (ret := (some .int)) (by decide) rfl ?_
  intro p e s m args below meth c s₁ B hml hv
  obtain ⟨rfl, hP, hK, hN, hZ⟩ := hv
  have hx := B.exec
  have hb := B.bytes
  have hr := B.returns
  have hts := atoms_spec (ws := wsX1_bodyFor) B.pre
  have hown : s.vm.findClass RX1 = some m.cls := findClass_of_methodNamed B.named
  have hlocks := B.notSynchronized
  have hl := lv_entry ([.int 5, .int 1]) (n := 5) (Nat.le_of_ble_eq_true rfl)
  rw [lg_entry_eq]
  generalize (lg_sl ([.int 5, .int 1]) ++ List.replicate (5 - (lg_sl ([.int 5, .int 1])).length) Slot.unset).toArray = ls at hl ⊢
  replace hl : lv_has ls 5 [(0, .int 5), (1, .int 1)] := hl
  refine lv_iload_n hx hb dX1_bodyFor_0 rfl (lv_at hl 0 rfl) ?_
  refine lv_istore_n (lv' := [(2, .int 5), (0, .int 5), (1, .int 1)]) hx hb dX1_bodyFor_1 rfl hl (by decide) rfl (fun ls hl => ?_)
  refine lv_iconst (v := 0) hx hb dX1_bodyFor_2 (by decide) ?_
  refine lv_istore_n (lv' := [(3, .int 0), (2, .int 5), (0, .int 5), (1, .int 1)]) hx hb dX1_bodyFor_3 rfl hl (by decide) rfl (fun ls hl => ?_)
  refine lv_iload_n hx hb dX1_bodyFor_4 rfl (lv_at hl 0 rfl) ?_
  refine lv_bipush (v := 7) hx hb dX1_bodyFor_5 (by decide) ?_
  refine lv_icmp_ge (tgt := 48) hx hb dX1_bodyFor_7 (by decide) (fun c_1 => ?_) (fun c_1 => ?_)
  · exact absurd c_1 (by decide)
  · refine lv_iload_n hx hb dX1_bodyFor_10 rfl (lv_at hl 1 rfl) ?_
    refine lv_iconst (v := 0) hx hb dX1_bodyFor_11 (by decide) ?_
    refine lv_bipush (v := 6) hx hb dX1_bodyFor_12 (by decide) ?_
    have kc5 : (5 : Int32).toInt = 5 := by decide
    have kc0 : (0 : Int32).toInt = 0 := by decide
    have kc6 : (6 : Int32).toInt = 6 := by decide
    refine zc_SN (As := [.int 5, .int 0, .int 6]) (rest := []) ⟨hx, hb, hml, hown, hts⟩ (c_within l D cI cJ cZ cP cS po (5) (0) (6) ) ⟨(va_cnB 3 hts gX1_bodyFor_X7_within_n44 rfl rfl rfl (hN.1 (RX1, 44, yX7_within) (List.mem_of_getElem? (i := 13) rfl)) (hts _ (List.mem_of_getElem? (i := 2) rfl)) dh_X7_within ⟨Nat.le_of_ble_eq_true rfl, Nat.le_of_ble_eq_true rfl⟩), (hts _ (List.mem_of_getElem? (i := 1) rfl)), trivial⟩ hK hN hZ rfl hl.1 rfl (Nat.le_of_ble_eq_true rfl) dX1_bodyFor_14 ⟨Nat.le_of_ble_eq_true rfl, Nat.le_of_ble_eq_true rfl⟩ (fun r_2 hr_2 => ?_)
    rcases hr_2 with ⟨rfl, g_3⟩ | ⟨rfl, g_4, g_5⟩ | ⟨rfl, g_6, g_7⟩
    · exfalso; omega
    · exfalso; omega
    · refine lv_if_eq (tgt := 48) hx hb dX1_bodyFor_17 (by decide) (fun c_8 => ?_) (fun c_8 => ?_)
      · exact absurd c_8 (by decide)
      · refine lv_iload_n hx hb dX1_bodyFor_20 rfl (lv_at hl 1 rfl) ?_
        refine lv_iload_n hx hb dX1_bodyFor_21 rfl (lv_at hl 3 rfl) ?_
        refine zc_S (As := [.int 5, .int 1]) (rest := []) ⟨hx, hb, hml, hown, hts⟩ (c_M_own_5_1 l D cI cJ cZ cP cS po  ) (va_cwS 2 hts gX1_bodyFor_X1_ownBody rfl rfl rfl dh_X1_ownBody ⟨Nat.le_of_ble_eq_true rfl, Nat.le_of_ble_eq_true rfl⟩) hK hN hZ rfl hl.1 rfl (Nat.le_of_ble_eq_true rfl) dX1_bodyFor_22 ⟨Nat.le_of_ble_eq_true rfl, Nat.le_of_ble_eq_true rfl⟩ (fun r_9 hr_9 => ?_)
        obtain rfl := hr_9
        refine lv_istore (lv' := [(4, .int (-1)), (3, .int 0), (2, .int 5), (0, .int 5), (1, .int 1)]) hx hb dX1_bodyFor_25 hl (by decide) rfl (fun ls hl => ?_)
        refine lv_iload hx hb dX1_bodyFor_27 (lv_at hl 0 rfl) ?_
        refine lv_iconst (v := (-1)) hx hb dX1_bodyFor_29 (by decide) ?_
        refine lv_icmp_eq (tgt := 36) hx hb dX1_bodyFor_30 (by decide) (fun c_10 => ?_) (fun c_10 => ?_)
        · obtain ⟨t_11, zt_11, yt_11⟩ := hZ.1.2
          refine va_getsN hx hb zt_11 va_S.rf hown (va_Nw.use rfl (hN.2.1 (RX1, 58) (List.mem_of_getElem? (i := 1) rfl))) (fun _ h9 => h9) dX1_bodyFor_36 ?_
          refine lv_iload_n hx hb dX1_bodyFor_39 rfl (lv_at hl 2 rfl) ?_
          refine va_ti hx hb yt_11 va_S.rf (zf_in (by decide) (by decide)) (v := .int 2) (by decide) dX1_bodyFor_40 ?_
          refine lv_istore_n (lv' := [(2, .int 2), (4, .int (-1)), (3, .int 0), (0, .int 5), (1, .int 1)]) hx hb dX1_bodyFor_41 rfl hl (by decide) rfl (fun ls hl => ?_)
          refine lv_iinc (v := 1) (lv' := [(3, .int 1), (2, .int 2), (4, .int (-1)), (0, .int 5), (1, .int 1)]) hx hb dX1_bodyFor_42 hl (k := 2) rfl (by decide) (by decide) rfl (fun ls hl => ?_)
          refine lv_goto (tgt := 4) hx hb dX1_bodyFor_45 (by decide) ?_
          refine lv_iload_n hx hb dX1_bodyFor_4 rfl (lv_at hl 0 rfl) ?_
          refine lv_bipush (v := 7) hx hb dX1_bodyFor_5 (by decide) ?_
          refine lv_icmp_ge (tgt := 48) hx hb dX1_bodyFor_7 (by decide) (fun c_12 => ?_) (fun c_12 => ?_)
          · exact absurd c_12 (by decide)
          · refine lv_iload_n hx hb dX1_bodyFor_10 rfl (lv_at hl 1 rfl) ?_
            refine lv_iconst (v := 0) hx hb dX1_bodyFor_11 (by decide) ?_
            refine lv_bipush (v := 6) hx hb dX1_bodyFor_12 (by decide) ?_
            have kc2 : (2 : Int32).toInt = 2 := by decide
            refine zc_SN (As := [.int 2, .int 0, .int 6]) (rest := []) ⟨hx, hb, hml, hown, hts⟩ (c_within l D cI cJ cZ cP cS po (2) (0) (6) ) ⟨(va_cnB 3 hts gX1_bodyFor_X7_within_n44 rfl rfl rfl (hN.1 (RX1, 44, yX7_within) (List.mem_of_getElem? (i := 13) rfl)) (hts _ (List.mem_of_getElem? (i := 2) rfl)) dh_X7_within ⟨Nat.le_of_ble_eq_true rfl, Nat.le_of_ble_eq_true rfl⟩), (hts _ (List.mem_of_getElem? (i := 1) rfl)), trivial⟩ hK hN hZ rfl hl.1 rfl (Nat.le_of_ble_eq_true rfl) dX1_bodyFor_14 ⟨Nat.le_of_ble_eq_true rfl, Nat.le_of_ble_eq_true rfl⟩ (fun r_13 hr_13 => ?_)
            rcases hr_13 with ⟨rfl, g_14⟩ | ⟨rfl, g_15, g_16⟩ | ⟨rfl, g_17, g_18⟩
            · exfalso; omega
            · exfalso; omega
            · refine lv_if_eq (tgt := 48) hx hb dX1_bodyFor_17 (by decide) (fun c_19 => ?_) (fun c_19 => ?_)
              · exact absurd c_19 (by decide)
              · refine lv_iload_n hx hb dX1_bodyFor_20 rfl (lv_at hl 1 rfl) ?_
                refine lv_iload_n hx hb dX1_bodyFor_21 rfl (lv_at hl 4 rfl) ?_
                refine zc_S (As := [.int 2, .int 1]) (rest := []) ⟨hx, hb, hml, hown, hts⟩ (c_M_own_2_1 l D cI cJ cZ cP cS po  ) (va_cwS 2 hts gX1_bodyFor_X1_ownBody rfl rfl rfl dh_X1_ownBody ⟨Nat.le_of_ble_eq_true rfl, Nat.le_of_ble_eq_true rfl⟩) hK hN hZ rfl hl.1 rfl (Nat.le_of_ble_eq_true rfl) dX1_bodyFor_22 ⟨Nat.le_of_ble_eq_true rfl, Nat.le_of_ble_eq_true rfl⟩ (fun r_20 hr_20 => ?_)
                obtain rfl := hr_20
                refine lv_istore (lv' := [(4, .int 30), (3, .int 1), (2, .int 2), (0, .int 5), (1, .int 1)]) hx hb dX1_bodyFor_25 hl (by decide) rfl (fun ls hl => ?_)
                refine lv_iload hx hb dX1_bodyFor_27 (lv_at hl 0 rfl) ?_
                refine lv_iconst (v := (-1)) hx hb dX1_bodyFor_29 (by decide) ?_
                refine lv_icmp_eq (tgt := 36) hx hb dX1_bodyFor_30 (by decide) (fun c_21 => ?_) (fun c_21 => ?_)
                · exact absurd c_21 (by decide)
                · refine lv_iload hx hb dX1_bodyFor_33 (lv_at hl 0 rfl) ?_
                  exact W.iret (v := 30) hx hb hr (fun t ht hW => ⟨30, rfl, rfl, ht⟩) (fun q hq => by cases hq) dX1_bodyFor_35
        · exact absurd c_10 (by decide)
set_option maxHeartbeats 4000000 in
set_option maxRecDepth 100000 in
theorem c_M_bodyFor_5_2 (l : Launch) (D : va_G) (cI cJ cZ cP cS : ClassId) (po : zPool)   : Met l yX1_bodyFor wsX1_bodyFor ({ frames := 1, cells := 0, slots := 0, locals := 22 }) (va_Pc [.int 5, .int 2] (zR D (zKT cI cJ cZ cP cS) po [])) (vp_Si (fun r => r = 60)) 0 0 (fun _ => False) := by
  refine Met.ofW (cc := cX1_bodyFor) (maxL := 5) (ret := (some .int)) (by decide) rfl ?_
  intro p e s m args below meth c s₁ B hml hv
  obtain ⟨rfl, hP, hK, hN, hZ⟩ := hv
  have hx := B.exec
  have hb := B.bytes
  have hr := B.returns
  have hts := atoms_spec (ws := wsX1_bodyFor) B.pre
  have hown : s.vm.findClass RX1 = some m.cls := findClass_of_methodNamed B.named
  have hlocks := B.notSynchronized
  have hl := lv_entry ([.int 5, .int 2]) (n := 5) (Nat.le_of_ble_eq_true rfl)
  rw [lg_entry_eq]
  generalize (lg_sl ([.int 5, .int 2]) ++ List.replicate (5 - (lg_sl ([.int 5, .int 2])).length) Slot.unset).toArray = ls at hl ⊢
  replace hl : lv_has ls 5 [(0, .int 5), (1, .int 2)] := hl
  refine lv_iload_n hx hb dX1_bodyFor_0 rfl (lv_at hl 0 rfl) ?_
  refine lv_istore_n (lv' := [(2, .int 5), (0, .int 5), (1, .int 2)]) hx hb dX1_bodyFor_1 rfl hl (by decide) rfl (fun ls hl => ?_)
  refine lv_iconst (v := 0) hx hb dX1_bodyFor_2 (by decide) ?_
  refine lv_istore_n (lv' := [(3, .int 0), (2, .int 5), (0, .int 5), (1, .int 2)]) hx hb dX1_bodyFor_3 rfl hl (by decide) rfl (fun ls hl => ?_)
  refine lv_iload_n hx hb dX1_bodyFor_4 rfl (lv_at hl 0 rfl) ?_
  refine lv_bipush (v := 7) hx hb dX1_bodyFor_5 (by decide) ?_
  refine lv_icmp_ge (tgt := 48) hx hb dX1_bodyFor_7 (by decide) (fun c_1 => ?_) (fun c_1 => ?_)
  · exact absurd c_1 (by decide)
  · refine lv_iload_n hx hb dX1_bodyFor_10 rfl (lv_at hl 1 rfl) ?_
    refine lv_iconst (v := 0) hx hb dX1_bodyFor_11 (by decide) ?_
    refine lv_bipush (v := 6) hx hb dX1_bodyFor_12 (by decide) ?_
    have kc5 : (5 : Int32).toInt = 5 := by decide
    have kc0 : (0 : Int32).toInt = 0 := by decide
    have kc6 : (6 : Int32).toInt = 6 := by decide
    refine zc_SN (As := [.int 5, .int 0, .int 6]) (rest := []) ⟨hx, hb, hml, hown, hts⟩ (c_within l D cI cJ cZ cP cS po (5) (0) (6) ) ⟨(va_cnB 3 hts gX1_bodyFor_X7_within_n44 rfl rfl rfl (hN.1 (RX1, 44, yX7_within) (List.mem_of_getElem? (i := 13) rfl)) (hts _ (List.mem_of_getElem? (i := 2) rfl)) dh_X7_within ⟨Nat.le_of_ble_eq_true rfl, Nat.le_of_ble_eq_true rfl⟩), (hts _ (List.mem_of_getElem? (i := 1) rfl)), trivial⟩ hK hN hZ rfl hl.1 rfl (Nat.le_of_ble_eq_true rfl) dX1_bodyFor_14 ⟨Nat.le_of_ble_eq_true rfl, Nat.le_of_ble_eq_true rfl⟩ (fun r_2 hr_2 => ?_)
    rcases hr_2 with ⟨rfl, g_3⟩ | ⟨rfl, g_4, g_5⟩ | ⟨rfl, g_6, g_7⟩
    · exfalso; omega
    · exfalso; omega
    · refine lv_if_eq (tgt := 48) hx hb dX1_bodyFor_17 (by decide) (fun c_8 => ?_) (fun c_8 => ?_)
      · exact absurd c_8 (by decide)
      · refine lv_iload_n hx hb dX1_bodyFor_20 rfl (lv_at hl 1 rfl) ?_
        refine lv_iload_n hx hb dX1_bodyFor_21 rfl (lv_at hl 3 rfl) ?_
        refine zc_S (As := [.int 5, .int 2]) (rest := []) ⟨hx, hb, hml, hown, hts⟩ (c_M_own_5_2 l D cI cJ cZ cP cS po  ) (va_cwS 2 hts gX1_bodyFor_X1_ownBody rfl rfl rfl dh_X1_ownBody ⟨Nat.le_of_ble_eq_true rfl, Nat.le_of_ble_eq_true rfl⟩) hK hN hZ rfl hl.1 rfl (Nat.le_of_ble_eq_true rfl) dX1_bodyFor_22 ⟨Nat.le_of_ble_eq_true rfl, Nat.le_of_ble_eq_true rfl⟩ (fun r_9 hr_9 => ?_)
        obtain rfl := hr_9
        refine lv_istore (lv' := [(4, .int 60), (3, .int 0), (2, .int 5), (0, .int 5), (1, .int 2)]) hx hb dX1_bodyFor_25 hl (by decide) rfl (fun ls hl => ?_)
        refine lv_iload hx hb dX1_bodyFor_27 (lv_at hl 0 rfl) ?_
        refine lv_iconst (v := (-1)) hx hb dX1_bodyFor_29 (by decide) ?_
        refine lv_icmp_eq (tgt := 36) hx hb dX1_bodyFor_30 (by decide) (fun c_10 => ?_) (fun c_10 => ?_)
        · exact absurd c_10 (by decide)
        · refine lv_iload hx hb dX1_bodyFor_33 (lv_at hl 0 rfl) ?_
          exact W.iret (v := 60) hx hb hr (fun t ht hW => ⟨60, rfl, rfl, ht⟩) (fun q hq => by cases hq) dX1_bodyFor_35
set_option maxHeartbeats 4000000 in
set_option maxRecDepth 100000 in
theorem c_M_bodyFor_6_0 (l : Launch) (D : va_G) (cI cJ cZ cP cS : ClassId) (po : zPool)   : Met l yX1_bodyFor wsX1_bodyFor ({ frames := 1, cells := 0, slots := 0, locals := 22 }) (va_Pc [.int 6, .int 0] (zR D (zKT cI cJ cZ cP cS) po [])) (vp_Si (fun r => r = 70)) 0 0 (fun _ => False) := by
  refine Met.ofW (cc := cX1_bodyFor) (maxL := 5) (ret := (some .int)) (by decide) rfl ?_
  intro p e s m args below meth c s₁ B hml hv
  obtain ⟨rfl, hP, hK, hN, hZ⟩ := hv
  have hx := B.exec
  have hb := B.bytes
  have hr := B.returns
  have hts := atoms_spec (ws := wsX1_bodyFor) B.pre
  have hown : s.vm.findClass RX1 = some m.cls := findClass_of_methodNamed B.named
  have hlocks := B.notSynchronized
  have hl := lv_entry ([.int 6, .int 0]) (n := 5) (Nat.le_of_ble_eq_true rfl)
  rw [lg_entry_eq]
  generalize (lg_sl ([.int 6, .int 0]) ++ List.replicate (5 - (lg_sl ([.int 6, .int 0])).length) Slot.unset).toArray = ls at hl ⊢
  replace hl : lv_has ls 5 [(0, .int 6), (1, .int 0)] := hl
  refine lv_iload_n hx hb dX1_bodyFor_0 rfl (lv_at hl 0 rfl) ?_
  refine lv_istore_n (lv' := [(2, .int 6), (0, .int 6), (1, .int 0)]) hx hb dX1_bodyFor_1 rfl hl (by decide) rfl (fun ls hl => ?_)
  refine lv_iconst (v := 0) hx hb dX1_bodyFor_2 (by decide) ?_
  refine lv_istore_n (lv' := [(3, .int 0), (2, .int 6), (0, .int 6), (1, .int 0)]) hx hb dX1_bodyFor_3 rfl hl (by decide) rfl (fun ls hl => ?_)
  refine lv_iload_n hx hb dX1_bodyFor_4 rfl (lv_at hl 0 rfl) ?_
  refine lv_bipush (v := 7) hx hb dX1_bodyFor_5 (by decide) ?_
  refine lv_icmp_ge (tgt := 48) hx hb dX1_bodyFor_7 (by decide) (fun c_1 => ?_) (fun c_1 => ?_)
  · exact absurd c_1 (by decide)
  · refine lv_iload_n hx hb dX1_bodyFor_10 rfl (lv_at hl 1 rfl) ?_
    refine lv_iconst (v := 0) hx hb dX1_bodyFor_11 (by decide) ?_
    refine lv_bipush (v := 6) hx hb dX1_bodyFor_12 (by decide) ?_
    have kc6 : (6 : Int32).toInt = 6 := by decide
    have kc0 : (0 : Int32).toInt = 0 := by decide
    refine zc_SN (As := [.int 6, .int 0, .int 6]) (rest := []) ⟨hx, hb, hml, hown, hts⟩ (c_within l D cI cJ cZ cP cS po (6) (0) (6) ) ⟨(va_cnB 3 hts gX1_bodyFor_X7_within_n44 rfl rfl rfl (hN.1 (RX1, 44, yX7_within) (List.mem_of_getElem? (i := 13) rfl)) (hts _ (List.mem_of_getElem? (i := 2) rfl)) dh_X7_within ⟨Nat.le_of_ble_eq_true rfl, Nat.le_of_ble_eq_true rfl⟩), (hts _ (List.mem_of_getElem? (i := 1) rfl)), trivial⟩ hK hN hZ rfl hl.1 rfl (Nat.le_of_ble_eq_true rfl) dX1_bodyFor_14 ⟨Nat.le_of_ble_eq_true rfl, Nat.le_of_ble_eq_true rfl⟩ (fun r_2 hr_2 => ?_)
    rcases hr_2 with ⟨rfl, g_3⟩ | ⟨rfl, g_4, g_5⟩ | ⟨rfl, g_6, g_7⟩
    · exfalso; omega
    · exfalso; omega
    · refine lv_if_eq (tgt := 48) hx hb dX1_bodyFor_17 (by decide) (fun c_8 => ?_) (fun c_8 => ?_)
      · exact absurd c_8 (by decide)
      · refine lv_iload_n hx hb dX1_bodyFor_20 rfl (lv_at hl 1 rfl) ?_
        refine lv_iload_n hx hb dX1_bodyFor_21 rfl (lv_at hl 3 rfl) ?_
        refine zc_S (As := [.int 6, .int 0]) (rest := []) ⟨hx, hb, hml, hown, hts⟩ (c_M_own_6_0 l D cI cJ cZ cP cS po  ) (va_cwS 2 hts gX1_bodyFor_X1_ownBody rfl rfl rfl dh_X1_ownBody ⟨Nat.le_of_ble_eq_true rfl, Nat.le_of_ble_eq_true rfl⟩) hK hN hZ rfl hl.1 rfl (Nat.le_of_ble_eq_true rfl) dX1_bodyFor_22 ⟨Nat.le_of_ble_eq_true rfl, Nat.le_of_ble_eq_true rfl⟩ (fun r_9 hr_9 => ?_)
        obtain rfl := hr_9
        refine lv_istore (lv' := [(4, .int 70), (3, .int 0), (2, .int 6), (0, .int 6), (1, .int 0)]) hx hb dX1_bodyFor_25 hl (by decide) rfl (fun ls hl => ?_)
        refine lv_iload hx hb dX1_bodyFor_27 (lv_at hl 0 rfl) ?_
        refine lv_iconst (v := (-1)) hx hb dX1_bodyFor_29 (by decide) ?_
        refine lv_icmp_eq (tgt := 36) hx hb dX1_bodyFor_30 (by decide) (fun c_10 => ?_) (fun c_10 => ?_)
        · exact absurd c_10 (by decide)
        · refine lv_iload hx hb dX1_bodyFor_33 (lv_at hl 0 rfl) ?_
          exact W.iret (v := 70) hx hb hr (fun t ht hW => ⟨70, rfl, rfl, ht⟩) (fun q hq => by cases hq) dX1_bodyFor_35
set_option maxHeartbeats 4000000 in
set_option maxRecDepth 100000 in
theorem c_M_bodyFor_6_1 (l : Launch) (D : va_G) (cI cJ cZ cP cS : ClassId) (po : zPool)   : Met l yX1_bodyFor wsX1_bodyFor ({ frames := 1, cells := 0, slots := 0, locals := 22 }) (va_Pc [.int 6, .int 1] (zR D (zKT cI cJ cZ cP cS) po [])) (vp_Si (fun r => r = 71)) 0 0 (fun _ => False) := by
  refine Met.ofW (cc := cX1_bodyFor) (maxL := 5) (ret := (some .int)) (by decide) rfl ?_
  intro p e s m args below meth c s₁ B hml hv
  obtain ⟨rfl, hP, hK, hN, hZ⟩ := hv
  have hx := B.exec
  have hb := B.bytes
  have hr := B.returns
  have hts := atoms_spec (ws := wsX1_bodyFor) B.pre
  have hown : s.vm.findClass RX1 = some m.cls := findClass_of_methodNamed B.named
  have hlocks := B.notSynchronized
  have hl := lv_entry ([.int 6, .int 1]) (n := 5) (Nat.le_of_ble_eq_true rfl)
  rw [lg_entry_eq]
  generalize (lg_sl ([.int 6, .int 1]) ++ List.replicate (5 - (lg_sl ([.int 6, .int 1])).length) Slot.unset).toArray = ls at hl ⊢
  replace hl : lv_has ls 5 [(0, .int 6), (1, .int 1)] := hl
  refine lv_iload_n hx hb dX1_bodyFor_0 rfl (lv_at hl 0 rfl) ?_
  refine lv_istore_n (lv' := [(2, .int 6), (0, .int 6), (1, .int 1)]) hx hb dX1_bodyFor_1 rfl hl (by decide) rfl (fun ls hl => ?_)
  refine lv_iconst (v := 0) hx hb dX1_bodyFor_2 (by decide) ?_
  refine lv_istore_n (lv' := [(3, .int 0), (2, .int 6), (0, .int 6), (1, .int 1)]) hx hb dX1_bodyFor_3 rfl hl (by decide) rfl (fun ls hl => ?_)
  refine lv_iload_n hx hb dX1_bodyFor_4 rfl (lv_at hl 0 rfl) ?_
  refine lv_bipush (v := 7) hx hb dX1_bodyFor_5 (by decide) ?_
  refine lv_icmp_ge (tgt := 48) hx hb dX1_bodyFor_7 (by decide) (fun c_1 => ?_) (fun c_1 => ?_)
  · exact absurd c_1 (by decide)
  · refine lv_iload_n hx hb dX1_bodyFor_10 rfl (lv_at hl 1 rfl) ?_
    refine lv_iconst (v := 0) hx hb dX1_bodyFor_11 (by decide) ?_
    refine lv_bipush (v := 6) hx hb dX1_bodyFor_12 (by decide) ?_
    have kc6 : (6 : Int32).toInt = 6 := by decide
    have kc0 : (0 : Int32).toInt = 0 := by decide
    refine zc_SN (As := [.int 6, .int 0, .int 6]) (rest := []) ⟨hx, hb, hml, hown, hts⟩ (c_within l D cI cJ cZ cP cS po (6) (0) (6) ) ⟨(va_cnB 3 hts gX1_bodyFor_X7_within_n44 rfl rfl rfl (hN.1 (RX1, 44, yX7_within) (List.mem_of_getElem? (i := 13) rfl)) (hts _ (List.mem_of_getElem? (i := 2) rfl)) dh_X7_within ⟨Nat.le_of_ble_eq_true rfl, Nat.le_of_ble_eq_true rfl⟩), (hts _ (List.mem_of_getElem? (i := 1) rfl)), trivial⟩ hK hN hZ rfl hl.1 rfl (Nat.le_of_ble_eq_true rfl) dX1_bodyFor_14 ⟨Nat.le_of_ble_eq_true rfl, Nat.le_of_ble_eq_true rfl⟩ (fun r_2 hr_2 => ?_)
    rcases hr_2 with ⟨rfl, g_3⟩ | ⟨rfl, g_4, g_5⟩ | ⟨rfl, g_6, g_7⟩
    · exfalso; omega
    · exfalso; omega
    · refine lv_if_eq (tgt := 48) hx hb dX1_bodyFor_17 (by decide) (fun c_8 => ?_) (fun c_8 => ?_)
      · exact absurd c_8 (by decide)
      · refine lv_iload_n hx hb dX1_bodyFor_20 rfl (lv_at hl 1 rfl) ?_
        refine lv_iload_n hx hb dX1_bodyFor_21 rfl (lv_at hl 3 rfl) ?_
        refine zc_S (As := [.int 6, .int 1]) (rest := []) ⟨hx, hb, hml, hown, hts⟩ (c_M_own_6_1 l D cI cJ cZ cP cS po  ) (va_cwS 2 hts gX1_bodyFor_X1_ownBody rfl rfl rfl dh_X1_ownBody ⟨Nat.le_of_ble_eq_true rfl, Nat.le_of_ble_eq_true rfl⟩) hK hN hZ rfl hl.1 rfl (Nat.le_of_ble_eq_true rfl) dX1_bodyFor_22 ⟨Nat.le_of_ble_eq_true rfl, Nat.le_of_ble_eq_true rfl⟩ (fun r_9 hr_9 => ?_)
        obtain rfl := hr_9
        refine lv_istore (lv' := [(4, .int 71), (3, .int 0), (2, .int 6), (0, .int 6), (1, .int 1)]) hx hb dX1_bodyFor_25 hl (by decide) rfl (fun ls hl => ?_)
        refine lv_iload hx hb dX1_bodyFor_27 (lv_at hl 0 rfl) ?_
        refine lv_iconst (v := (-1)) hx hb dX1_bodyFor_29 (by decide) ?_
        refine lv_icmp_eq (tgt := 36) hx hb dX1_bodyFor_30 (by decide) (fun c_10 => ?_) (fun c_10 => ?_)
        · exact absurd c_10 (by decide)
        · refine lv_iload hx hb dX1_bodyFor_33 (lv_at hl 0 rfl) ?_
          exact W.iret (v := 71) hx hb hr (fun t ht hW => ⟨71, rfl, rfl, ht⟩) (fun q hq => by cases hq) dX1_bodyFor_35
set_option maxHeartbeats 4000000 in
set_option maxRecDepth 100000 in
theorem c_M_bodyFor_6_2 (l : Launch) (D : va_G) (cI cJ cZ cP cS : ClassId) (po : zPool)   : Met l yX1_bodyFor wsX1_bodyFor ({ frames := 1, cells := 0, slots := 0, locals := 22 }) (va_Pc [.int 6, .int 2] (zR D (zKT cI cJ cZ cP cS) po [])) (vp_Si (fun r => r = 50)) 0 0 (fun _ => False) := by
  refine Met.ofW (cc := cX1_bodyFor) (maxL := 5) (ret := (some .int)) (by decide) rfl ?_
  intro p e s m args below meth c s₁ B hml hv
  obtain ⟨rfl, hP, hK, hN, hZ⟩ := hv
  have hx := B.exec
  have hb := B.bytes
  have hr := B.returns
  have hts := atoms_spec (ws := wsX1_bodyFor) B.pre
  have hown : s.vm.findClass RX1 = some m.cls := findClass_of_methodNamed B.named
  have hlocks := B.notSynchronized
  have hl := lv_entry ([.int 6, .int 2]) (n := 5) (Nat.le_of_ble_eq_true rfl)
  rw [lg_entry_eq]
  generalize (lg_sl ([.int 6, .int 2]) ++ List.replicate (5 - (lg_sl ([.int 6, .int 2])).length) Slot.unset).toArray = ls at hl ⊢
  replace hl : lv_has ls 5 [(0, .int 6), (1, .int 2)] := hl
  refine lv_iload_n hx hb dX1_bodyFor_0 rfl (lv_at hl 0 rfl) ?_
  refine lv_istore_n (lv' := [(2, .int 6), (0, .int 6), (1, .int 2)]) hx hb dX1_bodyFor_1 rfl hl (by decide) rfl (fun ls hl => ?_)
  refine lv_iconst (v := 0) hx hb dX1_bodyFor_2 (by decide) ?_
  refine lv_istore_n (lv' := [(3, .int 0), (2, .int 6), (0, .int 6), (1, .int 2)]) hx hb dX1_bodyFor_3 rfl hl (by decide) rfl (fun ls hl => ?_)
  refine lv_iload_n hx hb dX1_bodyFor_4 rfl (lv_at hl 0 rfl) ?_
  refine lv_bipush (v := 7) hx hb dX1_bodyFor_5 (by decide) ?_
  refine lv_icmp_ge (tgt := 48) hx hb dX1_bodyFor_7 (by decide) (fun c_1 => ?_) (fun c_1 => ?_)
  · exact absurd c_1 (by decide)
  · refine lv_iload_n hx hb dX1_bodyFor_10 rfl (lv_at hl 1 rfl) ?_
    refine lv_iconst (v := 0) hx hb dX1_bodyFor_11 (by decide) ?_
    refine lv_bipush (v := 6) hx hb dX1_bodyFor_12 (by decide) ?_
    have kc6 : (6 : Int32).toInt = 6 := by decide
    have kc0 : (0 : Int32).toInt = 0 := by decide
    refine zc_SN (As := [.int 6, .int 0, .int 6]) (rest := []) ⟨hx, hb, hml, hown, hts⟩ (c_within l D cI cJ cZ cP cS po (6) (0) (6) ) ⟨(va_cnB 3 hts gX1_bodyFor_X7_within_n44 rfl rfl rfl (hN.1 (RX1, 44, yX7_within) (List.mem_of_getElem? (i := 13) rfl)) (hts _ (List.mem_of_getElem? (i := 2) rfl)) dh_X7_within ⟨Nat.le_of_ble_eq_true rfl, Nat.le_of_ble_eq_true rfl⟩), (hts _ (List.mem_of_getElem? (i := 1) rfl)), trivial⟩ hK hN hZ rfl hl.1 rfl (Nat.le_of_ble_eq_true rfl) dX1_bodyFor_14 ⟨Nat.le_of_ble_eq_true rfl, Nat.le_of_ble_eq_true rfl⟩ (fun r_2 hr_2 => ?_)
    rcases hr_2 with ⟨rfl, g_3⟩ | ⟨rfl, g_4, g_5⟩ | ⟨rfl, g_6, g_7⟩
    · exfalso; omega
    · exfalso; omega
    · refine lv_if_eq (tgt := 48) hx hb dX1_bodyFor_17 (by decide) (fun c_8 => ?_) (fun c_8 => ?_)
      · exact absurd c_8 (by decide)
      · refine lv_iload_n hx hb dX1_bodyFor_20 rfl (lv_at hl 1 rfl) ?_
        refine lv_iload_n hx hb dX1_bodyFor_21 rfl (lv_at hl 3 rfl) ?_
        refine zc_S (As := [.int 6, .int 2]) (rest := []) ⟨hx, hb, hml, hown, hts⟩ (c_M_own_6_2 l D cI cJ cZ cP cS po  ) (va_cwS 2 hts gX1_bodyFor_X1_ownBody rfl rfl rfl dh_X1_ownBody ⟨Nat.le_of_ble_eq_true rfl, Nat.le_of_ble_eq_true rfl⟩) hK hN hZ rfl hl.1 rfl (Nat.le_of_ble_eq_true rfl) dX1_bodyFor_22 ⟨Nat.le_of_ble_eq_true rfl, Nat.le_of_ble_eq_true rfl⟩ (fun r_9 hr_9 => ?_)
        obtain rfl := hr_9
        refine lv_istore (lv' := [(4, .int (-1)), (3, .int 0), (2, .int 6), (0, .int 6), (1, .int 2)]) hx hb dX1_bodyFor_25 hl (by decide) rfl (fun ls hl => ?_)
        refine lv_iload hx hb dX1_bodyFor_27 (lv_at hl 0 rfl) ?_
        refine lv_iconst (v := (-1)) hx hb dX1_bodyFor_29 (by decide) ?_
        refine lv_icmp_eq (tgt := 36) hx hb dX1_bodyFor_30 (by decide) (fun c_10 => ?_) (fun c_10 => ?_)
        · obtain ⟨t_11, zt_11, yt_11⟩ := hZ.1.2
          refine va_getsN hx hb zt_11 va_S.rf hown (va_Nw.use rfl (hN.2.1 (RX1, 58) (List.mem_of_getElem? (i := 1) rfl))) (fun _ h9 => h9) dX1_bodyFor_36 ?_
          refine lv_iload_n hx hb dX1_bodyFor_39 rfl (lv_at hl 2 rfl) ?_
          refine va_ti hx hb yt_11 va_S.rf (zf_in (by decide) (by decide)) (v := .int 4) (by decide) dX1_bodyFor_40 ?_
          refine lv_istore_n (lv' := [(2, .int 4), (4, .int (-1)), (3, .int 0), (0, .int 6), (1, .int 2)]) hx hb dX1_bodyFor_41 rfl hl (by decide) rfl (fun ls hl => ?_)
          refine lv_iinc (v := 1) (lv' := [(3, .int 1), (2, .int 4), (4, .int (-1)), (0, .int 6), (1, .int 2)]) hx hb dX1_bodyFor_42 hl (k := 2) rfl (by decide) (by decide) rfl (fun ls hl => ?_)
          refine lv_goto (tgt := 4) hx hb dX1_bodyFor_45 (by decide) ?_
          refine lv_iload_n hx hb dX1_bodyFor_4 rfl (lv_at hl 0 rfl) ?_
          refine lv_bipush (v := 7) hx hb dX1_bodyFor_5 (by decide) ?_
          refine lv_icmp_ge (tgt := 48) hx hb dX1_bodyFor_7 (by decide) (fun c_12 => ?_) (fun c_12 => ?_)
          · exact absurd c_12 (by decide)
          · refine lv_iload_n hx hb dX1_bodyFor_10 rfl (lv_at hl 1 rfl) ?_
            refine lv_iconst (v := 0) hx hb dX1_bodyFor_11 (by decide) ?_
            refine lv_bipush (v := 6) hx hb dX1_bodyFor_12 (by decide) ?_
            have kc4 : (4 : Int32).toInt = 4 := by decide
            refine zc_SN (As := [.int 4, .int 0, .int 6]) (rest := []) ⟨hx, hb, hml, hown, hts⟩ (c_within l D cI cJ cZ cP cS po (4) (0) (6) ) ⟨(va_cnB 3 hts gX1_bodyFor_X7_within_n44 rfl rfl rfl (hN.1 (RX1, 44, yX7_within) (List.mem_of_getElem? (i := 13) rfl)) (hts _ (List.mem_of_getElem? (i := 2) rfl)) dh_X7_within ⟨Nat.le_of_ble_eq_true rfl, Nat.le_of_ble_eq_true rfl⟩), (hts _ (List.mem_of_getElem? (i := 1) rfl)), trivial⟩ hK hN hZ rfl hl.1 rfl (Nat.le_of_ble_eq_true rfl) dX1_bodyFor_14 ⟨Nat.le_of_ble_eq_true rfl, Nat.le_of_ble_eq_true rfl⟩ (fun r_13 hr_13 => ?_)
            rcases hr_13 with ⟨rfl, g_14⟩ | ⟨rfl, g_15, g_16⟩ | ⟨rfl, g_17, g_18⟩
            · exfalso; omega
            · exfalso; omega
            · refine lv_if_eq (tgt := 48) hx hb dX1_bodyFor_17 (by decide) (fun c_19 => ?_) (fun c_19 => ?_)
              · exact absurd c_19 (by decide)
              · refine lv_iload_n hx hb dX1_bodyFor_20 rfl (lv_at hl 1 rfl) ?_
                refine lv_iload_n hx hb dX1_bodyFor_21 rfl (lv_at hl 4 rfl) ?_
                refine zc_S (As := [.int 4, .int 2]) (rest := []) ⟨hx, hb, hml, hown, hts⟩ (c_M_own_4_2 l D cI cJ cZ cP cS po  ) (va_cwS 2 hts gX1_bodyFor_X1_ownBody rfl rfl rfl dh_X1_ownBody ⟨Nat.le_of_ble_eq_true rfl, Nat.le_of_ble_eq_true rfl⟩) hK hN hZ rfl hl.1 rfl (Nat.le_of_ble_eq_true rfl) dX1_bodyFor_22 ⟨Nat.le_of_ble_eq_true rfl, Nat.le_of_ble_eq_true rfl⟩ (fun r_20 hr_20 => ?_)
                obtain rfl := hr_20
                refine lv_istore (lv' := [(4, .int 50), (3, .int 1), (2, .int 4), (0, .int 6), (1, .int 2)]) hx hb dX1_bodyFor_25 hl (by decide) rfl (fun ls hl => ?_)
                refine lv_iload hx hb dX1_bodyFor_27 (lv_at hl 0 rfl) ?_
                refine lv_iconst (v := (-1)) hx hb dX1_bodyFor_29 (by decide) ?_
                refine lv_icmp_eq (tgt := 36) hx hb dX1_bodyFor_30 (by decide) (fun c_21 => ?_) (fun c_21 => ?_)
                · exact absurd c_21 (by decide)
                · refine lv_iload hx hb dX1_bodyFor_33 (lv_at hl 0 rfl) ?_
                  exact W.iret (v := 50) hx hb hr (fun t ht hW => ⟨50, rfl, rfl, ht⟩) (fun q hq => by cases hq) dX1_bodyFor_35
        · exact absurd c_10 (by decide)
end
section
theorem hi_X1_run_1 : ∀ w ∈ u_ws RX1 TX1 5, w ∈ wsX1_run := fun w h => (gl_X1_run_X10 w h).1
end
section
def wsX1_begin_r1 : List Cond := (Cond.fieldLink RX1 28 "TheLiningsInIt$Pull" "kind" "I") :: (Cond.fieldLink RX1 19 "TheLiningsInIt$Moves" "kind" "I") :: (Cond.fieldLink RX1 22 "TheLiningsInIt$Moves" "m" "I") :: (Cond.fieldLink RX1 31 "TheLiningsInIt$Pull" "a" "I") :: (Cond.fieldLink RX1 25 "TheLiningsInIt$Moves" "k" "I") :: (Cond.methodLink RX1 34 yX1_run) :: (Cond.instanceMethod yX1_run) :: (Cond.selects RX1 yX1_run yX1_run) :: (Cond.initialized RX1) :: (Cond.code yX1_run cX1_run 7 (some .int)) :: (Cond.methodLink RX1 48 yX1_bodyFor) :: (Cond.static yX1_bodyFor) :: (Cond.code yX1_bodyFor cX1_bodyFor 5 (some .int)) :: (Cond.static yX7_within) :: (Cond.initialized RX7) :: (Cond.code yX7_within cX7_within 3 (some .boolean)) :: (Cond.methodLink RX1 55 yX1_ownBody) :: (Cond.static yX1_ownBody) :: (Cond.code yX1_ownBody cX1_ownBody 2 (some .int)) :: (Cond.methodLink RX1 51 yX1_note) :: (Cond.instanceMethod yX1_note) :: (Cond.selects RX1 yX1_note yX1_note) :: (Cond.code yX1_note cX1_note 2 none) :: (Cond.fieldLink RX1 15 "TheLiningsInIt$Moves" "ran" "I") :: []
def wsX1_begin_r2 : List Cond := (Cond.fieldLink RX1 11 "TheLiningsInIt$Moves" "bodies" "[I") :: []
def wsX1_begin : List Cond := (.code yX1_begin cX1_begin 5 (some .int)) :: ((wsX1_begin_r1 ++ wsX1_begin_r2) ++ wsX20 ++ wsX10)
set_option maxRecDepth 20000 in
theorem gl_X1_begin_X10 : GoodIn wsX1_begin wsX10 := (dg_t (dg_r gw_wsX10))
theorem ggX1_begin_X1_run : GoodIn wsX1_begin wsX1_run := (dg_c 10 rfl rfl (dg_c 3 rfl rfl (dg_c 2 rfl rfl (dg_c 5 rfl rfl (dg_c 11 rfl rfl (dg_c 12 rfl rfl (dg_c 9 rfl rfl (dg_c 13 rfl rfl (dg_c 14 rfl rfl (dg_c 15 rfl rfl (dg_c 16 rfl rfl (dg_c 17 rfl rfl (dg_c 18 rfl rfl (dg_c 19 rfl rfl (dg_c 20 rfl rfl (dg_c 21 rfl rfl (dg_c 22 rfl rfl (dg_c 23 rfl rfl (dg_c 24 rfl rfl (dg_c 25 rfl rfl (dg_c 6 rfl rfl (dg_c 7 rfl rfl (dg_c 8 rfl rfl gl_X1_begin_X10)))))))))))))))))))))))
set_option maxRecDepth 20000 in
theorem gX1_begin_X1_run : GoodIn wsX1_begin (wsV RX1 34 RX1 yX1_run wsX1_run) := goodIn_app (dg_c 6 rfl rfl (dg_c 7 rfl rfl (dg_c 8 rfl rfl (dg_c 9 rfl rfl dg_0)))) ggX1_begin_X1_run
theorem dX1_begin_0 : decode cX1_begin 0 = .ok (.aload_n 0, 1) := dq_42 dp_cX1_begin rfl
theorem dX1_begin_1 : decode cX1_begin 1 = .ok (.aload_n 1, 1) := dq_43 dp_cX1_begin rfl
theorem dX1_begin_2 : decode cX1_begin 2 = .ok (.getfield 28, 3) := dq_180 dp_cX1_begin rfl
theorem dX1_begin_5 : decode cX1_begin 5 = .ok (.putfield 19, 3) := dq_181 dp_cX1_begin rfl
theorem dX1_begin_8 : decode cX1_begin 8 = .ok (.aload_n 0, 1) := dq_42 dp_cX1_begin rfl
theorem dX1_begin_9 : decode cX1_begin 9 = .ok (.iload_n 2, 1) := dq_28 dp_cX1_begin rfl
theorem dX1_begin_10 : decode cX1_begin 10 = .ok (.putfield 22, 3) := dq_181 dp_cX1_begin rfl
theorem dX1_begin_13 : decode cX1_begin 13 = .ok (.aload_n 0, 1) := dq_42 dp_cX1_begin rfl
theorem dX1_begin_14 : decode cX1_begin 14 = .ok (.aload_n 1, 1) := dq_43 dp_cX1_begin rfl
theorem dX1_begin_15 : decode cX1_begin 15 = .ok (.getfield 31, 3) := dq_180 dp_cX1_begin rfl
theorem dX1_begin_18 : decode cX1_begin 18 = .ok (.putfield 25, 3) := dq_181 dp_cX1_begin rfl
theorem dX1_begin_21 : decode cX1_begin 21 = .ok (.aload_n 0, 1) := dq_42 dp_cX1_begin rfl
theorem dX1_begin_22 : decode cX1_begin 22 = .ok (.aload_n 0, 1) := dq_42 dp_cX1_begin rfl
theorem dX1_begin_23 : decode cX1_begin 23 = .ok (.getfield 19, 3) := dq_180 dp_cX1_begin rfl
theorem dX1_begin_26 : decode cX1_begin 26 = .ok (.iload_n 3, 1) := dq_29 dp_cX1_begin rfl
theorem dX1_begin_27 : decode cX1_begin 27 = .ok (.iload 4, 2) := dq_21 dp_cX1_begin rfl
theorem dX1_begin_29 : decode cX1_begin 29 = .ok (.iconst 0, 1) := dq_3 dp_cX1_begin rfl
theorem dX1_begin_30 : decode cX1_begin 30 = .ok (.invokevirtual 34, 3) := dq_182 dp_cX1_begin rfl
theorem dX1_begin_33 : decode cX1_begin 33 = .ok (.ireturn, 1) := dq_172 dp_cX1_begin rfl
end
section
theorem gl_X1_begin_X20 : GoodIn wsX1_begin wsX20 := (dg_t (dg_l (dg_r gw_wsX20)))
theorem hi_X1_begin_2 : ∀ w ∈ u_ws RX2 TX2 3, w ∈ wsX1_begin := fun w h => (gl_X1_begin_X20 w h).1
theorem hi_X1_begin_1 : ∀ w ∈ u_ws RX1 TX1 5, w ∈ wsX1_begin := fun w h => (gl_X1_begin_X10 w h).1
end
section
/-! the ten words as texts; calls of static methods that write or answer a reference; new pulls -/
theorem zs_len (i : Nat) (hi : i < 10) : (Int32.ofNat (zLen.getD i 0)).toInt = (zLen.getD i 0 : Nat) ∧ 2 ≤ (Int32.ofNat (zLen.getD i 0)).toInt ∧ (Int32.ofNat (zLen.getD i 0)).toInt ≤ 7 := by
  have h : ∀ i : Nat, i < 10 → (Int32.ofNat (zLen.getD i 0)).toInt = (zLen.getD i 0 : Nat) ∧ 2 ≤ (Int32.ofNat (zLen.getD i 0)).toInt ∧ (Int32.ofNat (zLen.getD i 0)).toInt ≤ 7 := by decide +kernel
  exact h i hi
theorem zs_shr0 (x : Int32) : x >>> ((0 : Int32) &&& 31) = x := by
  have h : ((0 : Int32) &&& 31) = 0 := by decide
  rw [h]
  apply Int32.toInt_inj.mp
  simp
/-- a byte of a word, as its char -/
theorem zs_chr (i k : Nat) (hi : i < 10) (hk : k < zLen.getD i 0) : ((((zByt.getD i []).getD k 0) &&& 255).toUInt32 % 65536).toInt32 = (zByt.getD i []).getD k 0 ∧ narrow .char (.int ((zByt.getD i []).getD k 0)) = .int ((zByt.getD i []).getD k 0) := by
  have h : ∀ i : Nat, i < 10 → ∀ k : Nat, k < zLen.getD i 0 → ((((zByt.getD i []).getD k 0) &&& 255).toUInt32 % 65536).toInt32 = (zByt.getD i []).getD k 0 ∧ narrow .char (.int ((zByt.getD i []).getD k 0)) = .int ((zByt.getD i []).getD k 0) := by decide +kernel
  exact h i hi k hk
section ZC
variable {p : Program} {l : Launch} {e : Env} {R : Room} {s : State} {m : MethodId} {args : Array Value} {below : List Frame} {meth : Method} {c : Code} {H : Heap} {locs : List Loc} {cells slots : Nat} {Q : State → Prop} {pc : Nat} {ls : Array Slot}
variable {y : MethodName} {bytes cc : ByteArray} {maxL nL mc ms n index : Nat} {ret : Option FieldType} {wsY : List Cond} {rm : Room} {Ts : List Cond} {own C : String} {b : Addr} {As rest st0 : List Value} {wc ws wr : va_W} {D : va_G} {po : zPool} {tys : List (ClassId × FieldType)} {A : Nat → Prop} {H0 : Heap}
theorem zc_Sq {post : Option Nat → Prop} (S : CallFix p m c cc nL s args Ts own) (hM : Met l y wsY rm (va_Pc As (zR D tys po [])) (va_Sq post) 0 0 (fun _ => False)) (cw : CallB R s args own index y bytes maxL ret wsY rm 0 0 n ∧ (Cond.static y).before args s = true) (hK : va_K D vwCl tys s) (hN : zN s) {AZ : Nat → Prop} (hZ : zE D po AZ s H) (hn : As.length = n) (hz : ls.size = nL) (hst : st0 = As.reverse ++ rest) (hw : (rest.map fun v => v.category).sum ≤ 8) (hdg : decode cc pc = .ok (.invokestatic index, 3)) (hf : cells + 0 ≤ R.cells ∧ slots + 0 ≤ R.slots)
    (kk : ∀ r : Option Nat, post r → W p l e R s m args below meth c H locs cells slots Q (F0 m (pc + 3) ls (va_rf r :: rest))) : W p l e R s m args below meth c H locs cells slots Q (F0 m pc ls st0) :=
  va_csq (W.runS S hM cw ⟨zR_fb, fun U hU hW => ⟨rfl, zP_nil, va_K.moved hW.alike hK, hN.warm hW, by rw [hU]; exact (hZ.warm hW).narrow (fun _ h => h.elim)⟩⟩ rfl hn hz hst (lv_room hw) hdg hf) kk
theorem zw_Si {S' : Type} {post : Int32 → S' → Prop} {wq : S' → va_W} (S : CallFix p m c cc nL s args Ts own) (hM : Met l y wsY rm (va_Pc As (zW D tys po wc H.size)) (va_Qi post (zB D wc H.size wq) (va_A wc H.size)) mc ms (va_A wc H.size)) (cw : CallB R s args own index y bytes maxL ret wsY rm mc ms n ∧ (Cond.static y).before args s = true) (hK : va_K D vwCl tys s) (hN : zN s) (hZ : zE D po A s H) (hP : va_P D vwCl ws H) (hD : va_D A ws) (hS : va_S A H0 H locs) (hA : ∀ q, H0.size ≤ q → A q)
    (isC isR : List Nat) (hC : isC.map (fun i => ws[i]?) = wc.map some) (hR : isR.map (fun i => ws[i]?) = wr.map some) (hnC : va_nd isC = true) (hnR : va_nd isR = true) (hdis : ∀ i ∈ isR, i ∉ isC)
    (hn : As.length = n) (hz : ls.size = nL) (hst : st0 = As.reverse ++ rest) (hw : (rest.map fun v => v.category).sum ≤ 8) (hdg : decode cc pc = .ok (.invokestatic index, 3)) (hf : cells + mc ≤ R.cells ∧ slots + ms ≤ R.slots)
    (kk : ∀ (r : Int32) (u : S') (H1 : Heap) (locs1 : List Loc), post r u → va_P D vwCl (wr ++ wq u) H1 → va_D A (wr ++ wq u) → va_S A H0 H1 locs1 → W p l e R s m args below meth c H1 locs1 (cells + mc) (slots + ms) Q (F0 m (pc + 3) ls (.int r :: rest))) : W p l e R s m args below meth c H locs cells slots Q (F0 m pc ls st0) := by
  have hF := va_free (wc := wc) hD hS hA isC hC
  have hPc := zP_of hP hC
  have hDc : va_D (fun _ => True) wc := (hD.sub isC hnC hC).weaken (fun _ _ _ _ => trivial)
  refine va_calli (va_runS S hM cw ⟨zW_fb, fun U hU hW => ⟨rfl, by rw [hU], by rw [hU]; exact hPc, va_K.moved hW.alike hK, hDc, hN.warm hW, by rw [hU]; exact (hZ.warm hW).narrow hF⟩⟩ rfl hn hz hst (lv_room hw) hdg hf) hS (fun q _ h => hF q h) hF (fun r u t H1 locs1 ht hvm hw hB hz1 hk1 hS1 => ?_)
  obtain ⟨hP1, hD1⟩ := hB
  rw [ht] at hP1
  obtain ⟨hP2, hD2⟩ := va_join hP hD isC isR hC hR hnR hdis hk1 hF hP1 hD1
  exact kk r u H1 locs1 hw hP2 hD2 hS1
end ZC
/-- an item: its word and its numbers, as the reader lets them stand -/
def zItv (w a b c : Int) : Prop := (0 ≤ w ∧ w ≤ 9) ∧ (w = 0 → 4 ≤ a ∧ a ≤ 40) ∧ (w = 1 → 0 ≤ a ∧ a ≤ 39) ∧ (w = 2 → (0 ≤ a ∧ a ≤ 39) ∧ 0 ≤ b ∧ b ≤ 9) ∧ (w = 3 → (0 ≤ a ∧ a ≤ 6) ∧ (0 ≤ b ∧ b ≤ 9) ∧ 1 ≤ c ∧ c ≤ 60) ∧ (w = 4 → 0 ≤ a ∧ a ≤ 24) ∧ (w = 5 → 0 ≤ a ∧ a ≤ 300) ∧ (w = 6 → 0 ≤ a ∧ a ≤ 9) ∧ (w = 7 → 1 ≤ a ∧ a ≤ 9) ∧ (w = 8 → (0 ≤ a ∧ a ≤ 2) ∧ 0 ≤ b ∧ b ≤ 99) ∧ (w = 9 → 0 ≤ a ∧ a ≤ 40)
def zIt (f : Nat → Int32) (s : Nat) : Prop := zItv (f s).toInt (f (s + 1)).toInt (f (s + 2)).toInt (f (s + 3)).toInt
theorem zIt_mk {f : Nat → Int32} {s : Nat} {w a b c : Int32} (h0 : f (s + 0) = w) (h1 : f (s + 1) = a) (h2 : f (s + 2) = b) (h3 : f (s + 3) = c) (h : zItv w.toInt a.toInt b.toInt c.toInt) : zIt f s := by
  unfold zIt; rw [show f s = w from h0, h1, h2, h3]; exact h
theorem zIt_keep {f g : Nat → Int32} {s n : Nat} (h : ∀ j : Nat, j < n → g j = f j) (hn : s + 3 < n) (hf : zIt f s) : zIt g s := by
  unfold zIt; rw [h s (by omega), h (s + 1) (by omega), h (s + 2) (by omega), h (s + 3) (by omega)]; exact hf
/-! worlds with a tail of new pulls -/
theorem zC_app {X pl wc : va_W} {is : List Nat} (h : is.map (fun i => X[i]?) = wc.map some) : is.map (fun i => (X ++ pl)[i]?) = wc.map some := by
  rw [← h]
  apply List.map_congr_left
  intro i hi
  have h1 : X[i]? ∈ is.map (fun i => X[i]?) := List.mem_map_of_mem hi
  rw [h] at h1
  obtain ⟨q, -, e⟩ := List.mem_map.mp h1
  rw [List.getElem?_append_left (List.getElem?_eq_some_iff.mp e.symm).1]
theorem zT_app {X Y : va_W} {np tl : List (Nat × Int32 × Int32 × Int32)} : (X ++ (Y ++ np.map zPo)) ++ tl.map zPo = (X ++ Y) ++ (np ++ tl).map zPo := by simp
theorem zcells {p : Program} {l : Launch} {e : Env} {R : Room} {s : State} {m : MethodId} {args : Array Value} {below : List Frame} {meth : Method} {c : Code} {H : Heap} {locs : List Loc} {cells slots : Nat} {Q : State → Prop} {g : JFrame} (k : ∀ kc ks : Nat, kc = cells → ks = slots → W p l e R s m args below meth c H locs kc ks Q g) : W p l e R s m args below meth c H locs cells slots Q g := k _ _ rfl rfl
section ZT
variable {p : Program} {l : Launch} {e : Env} {R : Room} {s : State} {m : MethodId} {args : Array Value} {below : List Frame} {meth : Method} {c : Code} {H : Heap} {locs : List Loc} {cells slots : Nat} {Q : State → Prop} {pc : Nat} {ls : Array Slot}
variable {y : MethodName} {bytes cc : ByteArray} {maxL nL mc ms n index : Nat} {ret : Option FieldType} {wsY : List Cond} {rm : Room} {Ts : List Cond} {own C : String} {b : Addr} {As rest st0 : List Value} {wc ws wr pl : va_W} {D : va_G} {po : zPool} {tys : List (ClassId × FieldType)} {A : Nat → Prop} {H0 : Heap}
theorem zt_free (hD : va_D A (ws ++ pl)) (hS : va_S A H0 H locs) (hA : ∀ q, H0.size ≤ q → A q) {isC : List Nat} (hC : isC.map (fun i => ws[i]?) = wc.map some) : ∀ q, va_A wc H.size q → A q := va_free (wc := wc) hD hS hA isC (zC_app hC)
theorem zt_Vv {S' : Type} {post : S' → Prop} {wq : S' → va_W} (S : CallFix p m c cc nL s args Ts own) (hM : Met l y wsY rm (va_Pc (.ref b :: As) (zW D tys po wc H.size)) (va_Qv post (zB D wc H.size wq) (va_A wc H.size)) mc ms (va_A wc H.size)) (cw : CallW R s args own C index y bytes maxL ret wsY rm mc ms n) (hK : va_K D vwCl tys s) (hN : zN s) (hP : va_P D vwCl (ws ++ pl) H) (hD : va_D A (ws ++ pl)) (hS : va_S A H0 H locs) (hA : ∀ q, H0.size ≤ q → A q)
    (isC isR : List Nat) (hC : isC.map (fun i => ws[i]?) = wc.map some) (hR : isR.map (fun i => ws[i]?) = wr.map some) (hnC : va_nd isC = true) (hnR : va_nd isR = true) (hdis : ∀ i ∈ isR, i ∉ isC) (hZ : zE D po (va_A wc H.size) s H)
    (rv : ∃ cell : Cell, H[b]? = some cell ∧ cell.vm.isStatics = false ∧ s.vm.findClass C = some cell.cls) (hn : As.length = n) (hz : ls.size = nL) (hst : st0 = As.reverse ++ .ref b :: rest) (hw : (rest.map fun v => v.category).sum ≤ 8) (hdg : decode cc pc = .ok (.invokevirtual index, 3)) (hf : cells + mc ≤ R.cells ∧ slots + ms ≤ R.slots)
    (kk : ∀ (u : S') (H1 : Heap) (locs1 : List Loc), post u → va_P D vwCl ((wr ++ wq u) ++ pl) H1 → va_D A ((wr ++ wq u) ++ pl) → va_S A H0 H1 locs1 → W p l e R s m args below meth c H1 locs1 (cells + mc) (slots + ms) Q (F0 m (pc + 3) ls rest)) : W p l e R s m args below meth c H locs cells slots Q (F0 m pc ls st0) := by
  have hF := zt_free (wc := wc) hD hS hA hC
  have hPc := zP_of hP (zC_app (pl := pl) hC)
  have hDc : va_D (fun _ => True) wc := (hD.sub isC hnC (zC_app hC)).weaken (fun _ _ _ _ => trivial)
  refine va_callv (va_runV S hM cw ⟨zW_fb, rv, fun U hU hW => ⟨rfl, by rw [hU], by rw [hU]; exact hPc, va_K.moved hW.alike hK, hDc, hN.warm hW, by rw [hU]; exact hZ.warm hW⟩⟩ rfl hn hz hst (lv_room hw) hdg hf) hS (fun q _ h => hF q h) hF (fun u t H1 locs1 ht hvm hw hB hz1 hk1 hS1 => ?_)
  obtain ⟨hP1, hD1⟩ := hB
  rw [ht] at hP1
  obtain ⟨hP2, hD2⟩ := va_joinQ hP hD isC isR hC hR hnR hdis hk1 hF hP1 hD1
  exact kk u H1 locs1 hw hP2 hD2 hS1
theorem zt_V {S' : Type} {post : Int32 → S' → Prop} {wq : S' → va_W} (S : CallFix p m c cc nL s args Ts own) (hM : Met l y wsY rm (va_Pc (.ref b :: As) (zW D tys po wc H.size)) (va_Qi post (zB D wc H.size wq) (va_A wc H.size)) mc ms (va_A wc H.size)) (cw : CallW R s args own C index y bytes maxL ret wsY rm mc ms n) (hK : va_K D vwCl tys s) (hN : zN s) (hP : va_P D vwCl (ws ++ pl) H) (hD : va_D A (ws ++ pl)) (hS : va_S A H0 H locs) (hA : ∀ q, H0.size ≤ q → A q)
    (isC isR : List Nat) (hC : isC.map (fun i => ws[i]?) = wc.map some) (hR : isR.map (fun i => ws[i]?) = wr.map some) (hnC : va_nd isC = true) (hnR : va_nd isR = true) (hdis : ∀ i ∈ isR, i ∉ isC) (hZ : zE D po (va_A wc H.size) s H)
    (rv : ∃ cell : Cell, H[b]? = some cell ∧ cell.vm.isStatics = false ∧ s.vm.findClass C = some cell.cls) (hn : As.length = n) (hz : ls.size = nL) (hst : st0 = As.reverse ++ .ref b :: rest) (hw : (rest.map fun v => v.category).sum ≤ 8) (hdg : decode cc pc = .ok (.invokevirtual index, 3)) (hf : cells + mc ≤ R.cells ∧ slots + ms ≤ R.slots)
    (kk : ∀ (r : Int32) (u : S') (H1 : Heap) (locs1 : List Loc), post r u → va_P D vwCl ((wr ++ wq u) ++ pl) H1 → va_D A ((wr ++ wq u) ++ pl) → va_S A H0 H1 locs1 → W p l e R s m args below meth c H1 locs1 (cells + mc) (slots + ms) Q (F0 m (pc + 3) ls (.int r :: rest))) : W p l e R s m args below meth c H locs cells slots Q (F0 m pc ls st0) := by
  have hF := zt_free (wc := wc) hD hS hA hC
  have hPc := zP_of hP (zC_app (pl := pl) hC)
  have hDc : va_D (fun _ => True) wc := (hD.sub isC hnC (zC_app hC)).weaken (fun _ _ _ _ => trivial)
  refine va_calli (va_runV S hM cw ⟨zW_fb, rv, fun U hU hW => ⟨rfl, by rw [hU], by rw [hU]; exact hPc, va_K.moved hW.alike hK, hDc, hN.warm hW, by rw [hU]; exact hZ.warm hW⟩⟩ rfl hn hz hst (lv_room hw) hdg hf) hS (fun q _ h => hF q h) hF (fun r u t H1 locs1 ht hvm hw hB hz1 hk1 hS1 => ?_)
  obtain ⟨hP1, hD1⟩ := hB
  rw [ht] at hP1
  obtain ⟨hP2, hD2⟩ := va_joinQ hP hD isC isR hC hR hnR hdis hk1 hF hP1 hD1
  exact kk r u H1 locs1 hw hP2 hD2 hS1
theorem zt_Vl {S' : Type} {post : Int64 → S' → Prop} {wq : S' → va_W} (S : CallFix p m c cc nL s args Ts own) (hM : Met l y wsY rm (va_Pc (.ref b :: As) (zW D tys po wc H.size)) (va_Ql post (zB D wc H.size wq) (va_A wc H.size)) mc ms (va_A wc H.size)) (cw : CallW R s args own C index y bytes maxL ret wsY rm mc ms n) (hK : va_K D vwCl tys s) (hN : zN s) (hP : va_P D vwCl (ws ++ pl) H) (hD : va_D A (ws ++ pl)) (hS : va_S A H0 H locs) (hA : ∀ q, H0.size ≤ q → A q)
    (isC isR : List Nat) (hC : isC.map (fun i => ws[i]?) = wc.map some) (hR : isR.map (fun i => ws[i]?) = wr.map some) (hnC : va_nd isC = true) (hnR : va_nd isR = true) (hdis : ∀ i ∈ isR, i ∉ isC) (hZ : zE D po (va_A wc H.size) s H)
    (rv : ∃ cell : Cell, H[b]? = some cell ∧ cell.vm.isStatics = false ∧ s.vm.findClass C = some cell.cls) (hn : As.length = n) (hz : ls.size = nL) (hst : st0 = As.reverse ++ .ref b :: rest) (hw : (rest.map fun v => v.category).sum ≤ 8) (hdg : decode cc pc = .ok (.invokevirtual index, 3)) (hf : cells + mc ≤ R.cells ∧ slots + ms ≤ R.slots)
    (kk : ∀ (r : Int64) (u : S') (H1 : Heap) (locs1 : List Loc), post r u → va_P D vwCl ((wr ++ wq u) ++ pl) H1 → va_D A ((wr ++ wq u) ++ pl) → va_S A H0 H1 locs1 → W p l e R s m args below meth c H1 locs1 (cells + mc) (slots + ms) Q (F0 m (pc + 3) ls (.long r :: rest))) : W p l e R s m args below meth c H locs cells slots Q (F0 m pc ls st0) := by
  have hF := zt_free (wc := wc) hD hS hA hC
  have hPc := zP_of hP (zC_app (pl := pl) hC)
  have hDc : va_D (fun _ => True) wc := (hD.sub isC hnC (zC_app hC)).weaken (fun _ _ _ _ => trivial)
  refine va_calll (va_runV S hM cw ⟨zW_fb, rv, fun U hU hW => ⟨rfl, by rw [hU], by rw [hU]; exact hPc, va_K.moved hW.alike hK, hDc, hN.warm hW, by rw [hU]; exact hZ.warm hW⟩⟩ rfl hn hz hst (lv_room hw) hdg hf) hS (fun q _ h => hF q h) hF (fun r u t H1 locs1 ht hvm hw hB hz1 hk1 hS1 => ?_)
  obtain ⟨hP1, hD1⟩ := hB
  rw [ht] at hP1
  obtain ⟨hP2, hD2⟩ := va_joinQ hP hD isC isR hC hR hnR hdis hk1 hF hP1 hD1
  exact kk r u H1 locs1 hw hP2 hD2 hS1
end ZT
/-- the pulls of a row, among a list of pulls, with these kinds, numbers A and seconds -/
def zJL (L : List (Nat × Int32 × Int32 × Int32)) (f : Nat → Option Nat) (n : Int32) (K A T : Nat → Int32) : Prop := ∀ j : Nat, (j : Int) < n.toInt → ∃ u : Nat, f j = some u ∧ (u, K j, A j, T j) ∈ L
def zWL (L : List (Nat × Int32 × Int32 × Int32)) (f : Nat → Option Nat) : Prop := ∀ j : Nat, f j = none ∨ ∃ (u : Nat) (k a t : Int32), f j = some u ∧ (u, k, a, t) ∈ L
/-- a row of pulls, and what it is behind the making of these new ones -/
def zExt (np : List (Nat × Int32 × Int32 × Int32)) (f : Nat → Option Nat) (n : Int32) (K A T : Nat → Int32) (f2 : Nat → Option Nat) (n2 : Int32) (K2 A2 T2 : Nat → Int32) : Prop := ∀ L : List (Nat × Int32 × Int32 × Int32), zJL L f n K A T → zWL L f → zJL (np ++ L) f2 n2 K2 A2 T2 ∧ zWL (np ++ L) f2
theorem zExt.refl {f : Nat → Option Nat} {n : Int32} {K A T : Nat → Int32} : zExt [] f n K A T f n K A T := fun _ h1 h2 => ⟨h1, h2⟩
theorem zExt.trans {np nq : List (Nat × Int32 × Int32 × Int32)} {f f2 f3 : Nat → Option Nat} {n n2 n3 : Int32} {K A T K2 A2 T2 K3 A3 T3 : Nat → Int32} (h1 : zExt np f n K A T f2 n2 K2 A2 T2) (h2 : zExt nq f2 n2 K2 A2 T2 f3 n3 K3 A3 T3) : zExt (nq ++ np) f n K A T f3 n3 K3 A3 T3 := fun L h3 h4 => by
  obtain ⟨h5, h6⟩ := h1 L h3 h4
  rw [List.append_assoc]
  exact h2 _ h5 h6
theorem zExt_new {q : Nat} {ki a t : Int32} {f : Nat → Option Nat} {n n2 : Int32} {K A T : Nat → Int32} (h0 : 0 ≤ n.toInt) (h : n2.toInt = n.toInt + 1) : zExt [(q, ki, a, t)] f n K A T (va_up f n.toNatClampNeg (some q)) n2 (upd K n.toNatClampNeg ki) (upd A n.toNatClampNeg a) (upd T n.toNatClampNeg t) := by
  intro L h1 h2
  have hn : n.toNatClampNeg = n.toInt.toNat := rfl
  refine ⟨fun j hj => ?_, fun j => ?_⟩
  · by_cases e : j = n.toNatClampNeg
    · subst e
      refine ⟨q, by simp [va_up], ?_⟩
      simp [upd]
    · obtain ⟨u, h3, h4⟩ := h1 j (by omega)
      refine ⟨u, by simp only [va_up]; rw [if_neg e]; exact h3, ?_⟩
      simp only [upd]; rw [if_neg e, if_neg e, if_neg e]
      exact List.mem_cons_of_mem _ h4
  · by_cases e : j = n.toNatClampNeg
    · subst e
      exact Or.inr ⟨q, ki, a, t, by simp [va_up], by simp⟩
    · rcases h2 j with h3 | ⟨u, k, a', t', h3, h4⟩
      · exact Or.inl (by simp only [va_up]; rw [if_neg e]; exact h3)
      · exact Or.inr ⟨u, k, a', t', by simp only [va_up]; rw [if_neg e]; exact h3, List.mem_cons_of_mem _ h4⟩
/-- what row answers -/
def zRow (s o n : Int) : Int := if s < 0 then -1 else if 7 < s then -1 else if n < 0 then -4 else if o < 0 then -6 else if 3 < o then -6 else if 160 < n then -7 else 1
end
section
def wsX0_become : List Cond := (.code yX0_become cX0_become 3 none) :: (.fieldLink RX0 12 "TheLiningsInIt$Jacket" "zip" "LTheLiningsInIt$Zip;") :: (.fieldLink RX0 20 "TheLiningsInIt$Jacket" "pulls" "[LTheLiningsInIt$Pull;") :: (.fieldLink RX0 24 "TheLiningsInIt$Jacket" "costs" "[I") :: (.methodLink RX0 51 arraycopyName) :: (.native arraycopyName) :: (.static arraycopyName) :: (.initialized "java/lang/System") :: (.fieldLink RX0 28 "TheLiningsInIt$Jacket" "pullCount" "I") :: (.fieldLink RX0 32 "TheLiningsInIt$Jacket" "depth" "I") :: (.fieldLink RX0 35 "TheLiningsInIt$Jacket" "torn" "I") :: (.fieldLink RX0 38 "TheLiningsInIt$Jacket" "seconds" "I") :: (.fieldLink RX0 41 "TheLiningsInIt$Jacket" "hurry" "I") :: (.fieldLink RX0 44 "TheLiningsInIt$Jacket" "seedNow" "I") :: (.methodLink RX0 47 yX6_become) :: (.instanceMethod yX6_become) :: (.selects RX6 yX6_become yX6_become) :: (.initialized RX6) :: (.code yX6_become cX6_become 3 none) :: (.fieldLink RX6 9 "TheLiningsInIt$Zip" "lacking" "[Z") :: (.fieldLink RX6 15 "TheLiningsInIt$Zip" "slacks" "[I") :: (.fieldLink RX6 19 "TheLiningsInIt$Zip" "size" "I") :: (.fieldLink RX6 23 "TheLiningsInIt$Zip" "at" "I") :: (.fieldLink RX6 26 "TheLiningsInIt$Zip" "gap" "I") :: (wsX00 ++ wsX60)
def wsX2_init : List Cond := (.code yX2_init cX2_init 4 none) :: (.methodLink RX2 3 objectInit) :: (.instanceMethod objectInit) :: (.code objectInit ⟨#[0xb1]⟩ 1 none) :: (.fieldLink RX2 9 "TheLiningsInIt$Pull" "kind" "I") :: (.fieldLink RX2 15 "TheLiningsInIt$Pull" "a" "I") :: (.fieldLink RX2 18 "TheLiningsInIt$Pull" "takes" "I") :: wsX20
def wsX0_addPull : List Cond := (.code yX0_addPull cX0_addPull 4 (some .int)) :: (.fieldLink RX0 28 "TheLiningsInIt$Jacket" "pullCount" "I") :: (.fieldLink RX0 20 "TheLiningsInIt$Jacket" "pulls" "[LTheLiningsInIt$Pull;") :: (.classLink RX0 18 RX2) :: (.instantiable RX2 3) :: (.initialized RX2) :: (.methodLink RX0 70 yX2_init) :: (.instanceMethod yX2_init) :: (.code yX2_init cX2_init 4 none) :: (.methodLink RX2 3 objectInit) :: (.instanceMethod objectInit) :: (.code objectInit ⟨#[0xb1]⟩ 1 none) :: (.fieldLink RX2 9 "TheLiningsInIt$Pull" "kind" "I") :: (.fieldLink RX2 15 "TheLiningsInIt$Pull" "a" "I") :: (.fieldLink RX2 18 "TheLiningsInIt$Pull" "takes" "I") :: (wsX00 ++ wsX20)
def wsX3_takeLetters : List Cond := (.code yX3_takeLetters cX3_takeLetters 3 none) :: (.fieldLink RX3 49 "TheLiningsInIt$Shelf" "size" "I") :: (.methodLink RX3 52 Lib.Math.min.name) :: (.static Lib.Math.min.name) :: (.initialized "java/lang/Math") :: (.code Lib.Math.min.name Lib.Math.min.code 2 (some .int)) :: (.fieldLink RX3 18 "TheLiningsInIt$Reader" "size" "I") :: (.fieldLink RX3 15 "TheLiningsInIt$Reader" "letters" "[I") :: (.methodLink RX3 58 yX4_tells) :: (.instanceMethod yX4_tells) :: (.selects RX4 yX4_tells yX4_tells) :: (.initialized RX4) :: (.code yX4_tells cX4_tells 2 (some .int)) :: (.fieldLink RX4 9 "TheLiningsInIt$Shelf" "elements" "[J") :: (.methodLink RX4 36 yX4_hasSpan) :: (.instanceMethod yX4_hasSpan) :: (.selects RX4 yX4_hasSpan yX4_hasSpan) :: (.code yX4_hasSpan cX4_hasSpan 3 (some .boolean)) :: (.fieldLink RX4 19 "TheLiningsInIt$Shelf" "size" "I") :: (wsX40 ++ wsX30)
def wsX3_wordAt : List Cond := (.code yX3_wordAt cX3_wordAt 1 (some (.object "java/lang/String"))) :: []
def wsJ0_coder_7d493 : List Cond := (.code yJ0_coder_7d493 cJ0_coder_7d493 1 (some .byte)) :: (.fieldLink RJ0 38 "java/lang/String" "COMPACT_STRINGS" "Z") :: (.fieldLink RJ0 15 "java/lang/String" "coder" "B") :: []
def wsJ0_length_8abf5 : List Cond := (.code yJ0_length_8abf5 cJ0_length_8abf5 1 (some .int)) :: (.fieldLink RJ0 9 "java/lang/String" "value" "[B") :: (.methodLink RJ0 335 yJ0_coder_7d493) :: (.instanceMethod yJ0_coder_7d493) :: (.selects RJ0 yJ0_coder_7d493 yJ0_coder_7d493) :: (.initialized RJ0) :: (.code yJ0_coder_7d493 cJ0_coder_7d493 1 (some .byte)) :: (.fieldLink RJ0 38 "java/lang/String" "COMPACT_STRINGS" "Z") :: (.fieldLink RJ0 15 "java/lang/String" "coder" "B") :: []
def wsJ0_isLatin1_aae02 : List Cond := (.code yJ0_isLatin1_aae02 cJ0_isLatin1_aae02 1 (some .boolean)) :: (.fieldLink RJ0 38 "java/lang/String" "COMPACT_STRINGS" "Z") :: (.fieldLink RJ0 15 "java/lang/String" "coder" "B") :: []
def wsJ3_checkIndex_8e157 : List Cond := (.code yJ3_checkIndex_8e157 cJ3_checkIndex_8e157 3 (some .int)) :: []
def wsJ0_checkIndex_df160 : List Cond := (.code yJ0_checkIndex_df160 cJ0_checkIndex_df160 2 none) :: (.fieldLink RJ0 1053 "jdk/internal/util/Preconditions" "SIOOBE_FORMATTER" "Ljava/util/function/BiFunction;") :: (.methodLink RJ0 1059 yJ3_checkIndex_8e157) :: (.static yJ3_checkIndex_8e157) :: (.initialized RJ3) :: (.code yJ3_checkIndex_8e157 cJ3_checkIndex_8e157 3 (some .int)) :: []
def wsJ1_charAt_3b067 : List Cond := (.code yJ1_charAt_3b067 cJ1_charAt_3b067 2 (some .char)) :: (.methodLink RJ1 9 yJ0_checkIndex_df160) :: (.static yJ0_checkIndex_df160) :: (.initialized RJ0) :: (.code yJ0_checkIndex_df160 cJ0_checkIndex_df160 2 none) :: (.fieldLink RJ0 1053 "jdk/internal/util/Preconditions" "SIOOBE_FORMATTER" "Ljava/util/function/BiFunction;") :: (.methodLink RJ0 1059 yJ3_checkIndex_8e157) :: (.static yJ3_checkIndex_8e157) :: (.initialized RJ3) :: (.code yJ3_checkIndex_8e157 cJ3_checkIndex_8e157 3 (some .int)) :: []
def wsJ0_charAt_5068e_r1 : List Cond := (Cond.fieldLink RJ0 9 "java/lang/String" "value" "[B") :: (Cond.methodLink RJ0 492 yJ0_isLatin1_aae02) :: (Cond.instanceMethod yJ0_isLatin1_aae02) :: (Cond.selects RJ0 yJ0_isLatin1_aae02 yJ0_isLatin1_aae02) :: (Cond.initialized RJ0) :: (Cond.code yJ0_isLatin1_aae02 cJ0_isLatin1_aae02 1 (some .boolean)) :: (Cond.fieldLink RJ0 38 "java/lang/String" "COMPACT_STRINGS" "Z") :: (Cond.fieldLink RJ0 15 "java/lang/String" "coder" "B") :: (Cond.methodLink RJ0 495 yJ1_charAt_3b067) :: (Cond.static yJ1_charAt_3b067) :: (Cond.initialized RJ1) :: (Cond.code yJ1_charAt_3b067 cJ1_charAt_3b067 2 (some .char)) :: (Cond.methodLink RJ1 9 yJ0_checkIndex_df160) :: (Cond.static yJ0_checkIndex_df160) :: (Cond.code yJ0_checkIndex_df160 cJ0_checkIndex_df160 2 none) :: (Cond.fieldLink RJ0 1053 "jdk/internal/util/Preconditions" "SIOOBE_FORMATTER" "Ljava/util/function/BiFunction;") :: (Cond.methodLink RJ0 1059 yJ3_checkIndex_8e157) :: (Cond.static yJ3_checkIndex_8e157) :: (Cond.initialized RJ3) :: (Cond.code yJ3_checkIndex_8e157 cJ3_checkIndex_8e157 3 (some .int)) :: (Cond.methodLink RJ0 498 yJ2_charAt_3b067) :: (Cond.static yJ2_charAt_3b067) :: (Cond.initialized RJ2) :: (Cond.code yJ2_charAt_3b067 cJ2_charAt_3b067 2 (some .char)) :: []
def wsJ0_charAt_5068e_r2 : List Cond := (Cond.methodLink RJ2 67 yJ2_checkIndex_2214a) :: (Cond.static yJ2_checkIndex_2214a) :: (Cond.code yJ2_checkIndex_2214a cJ2_checkIndex_2214a 2 none) :: (Cond.methodLink RJ2 48 yJ2_length_9d52b) :: (Cond.static yJ2_length_9d52b) :: (Cond.code yJ2_length_9d52b cJ2_length_9d52b 1 (some .int)) :: (Cond.methodLink RJ2 414 yJ0_checkIndex_df160) :: (Cond.methodLink RJ2 71 yJ2_getChar_3b067) :: (Cond.static yJ2_getChar_3b067) :: (Cond.code yJ2_getChar_3b067 cJ2_getChar_3b067 2 (some .char)) :: (Cond.fieldLink RJ2 44 "java/lang/StringUTF16" "$assertionsDisabled" "Z") :: (Cond.fieldLink RJ2 59 "java/lang/StringUTF16" "HI_BYTE_SHIFT" "I") :: (Cond.fieldLink RJ2 63 "java/lang/StringUTF16" "LO_BYTE_SHIFT" "I") :: []
def wsJ0_charAt_5068e : List Cond := (.code yJ0_charAt_5068e cJ0_charAt_5068e 2 (some .char)) :: (wsJ0_charAt_5068e_r1 ++ wsJ0_charAt_5068e_r2)
def wsX3_stands : List Cond := (.code yX3_stands cX3_stands 3 (some .boolean)) :: (.fieldLink RX3 18 "TheLiningsInIt$Reader" "size" "I") :: (.fieldLink RX3 15 "TheLiningsInIt$Reader" "letters" "[I") :: wsX30
def wsX3_lettersStanding_r1 : List Cond := (Cond.fieldLink RX3 25 "TheLiningsInIt$Reader" "place" "I") :: (Cond.methodLink RX3 90 yJ0_length_8abf5) :: (Cond.instanceMethod yJ0_length_8abf5) :: (Cond.selects RJ0 yJ0_length_8abf5 yJ0_length_8abf5) :: (Cond.initialized RJ0) :: (Cond.code yJ0_length_8abf5 cJ0_length_8abf5 1 (some .int)) :: (Cond.fieldLink RJ0 9 "java/lang/String" "value" "[B") :: (Cond.methodLink RJ0 335 yJ0_coder_7d493) :: (Cond.instanceMethod yJ0_coder_7d493) :: (Cond.selects RJ0 yJ0_coder_7d493 yJ0_coder_7d493) :: (Cond.code yJ0_coder_7d493 cJ0_coder_7d493 1 (some .byte)) :: (Cond.fieldLink RJ0 38 "java/lang/String" "COMPACT_STRINGS" "Z") :: (Cond.fieldLink RJ0 15 "java/lang/String" "coder" "B") :: (Cond.methodLink RX3 101 yJ0_charAt_5068e) :: (Cond.instanceMethod yJ0_charAt_5068e) :: (Cond.selects RJ0 yJ0_charAt_5068e yJ0_charAt_5068e) :: (Cond.code yJ0_charAt_5068e cJ0_charAt_5068e 2 (some .char)) :: (Cond.methodLink RJ0 492 yJ0_isLatin1_aae02) :: (Cond.instanceMethod yJ0_isLatin1_aae02) :: (Cond.selects RJ0 yJ0_isLatin1_aae02 yJ0_isLatin1_aae02) :: (Cond.code yJ0_isLatin1_aae02 cJ0_isLatin1_aae02 1 (some .boolean)) :: (Cond.methodLink RJ0 495 yJ1_charAt_3b067) :: (Cond.static yJ1_charAt_3b067) :: (Cond.initialized RJ1) :: []
def wsX3_lettersStanding_r2 : List Cond := (Cond.code yJ1_charAt_3b067 cJ1_charAt_3b067 2 (some .char)) :: (Cond.methodLink RJ1 9 yJ0_checkIndex_df160) :: (Cond.static yJ0_checkIndex_df160) :: (Cond.code yJ0_checkIndex_df160 cJ0_checkIndex_df160 2 none) :: (Cond.fieldLink RJ0 1053 "jdk/internal/util/Preconditions" "SIOOBE_FORMATTER" "Ljava/util/function/BiFunction;") :: (Cond.methodLink RJ0 1059 yJ3_checkIndex_8e157) :: (Cond.static yJ3_checkIndex_8e157) :: (Cond.initialized RJ3) :: (Cond.code yJ3_checkIndex_8e157 cJ3_checkIndex_8e157 3 (some .int)) :: (Cond.methodLink RJ0 498 yJ2_charAt_3b067) :: (Cond.static yJ2_charAt_3b067) :: (Cond.initialized RJ2) :: (Cond.code yJ2_charAt_3b067 cJ2_charAt_3b067 2 (some .char)) :: (Cond.methodLink RJ2 67 yJ2_checkIndex_2214a) :: (Cond.static yJ2_checkIndex_2214a) :: (Cond.code yJ2_checkIndex_2214a cJ2_checkIndex_2214a 2 none) :: (Cond.methodLink RJ2 48 yJ2_length_9d52b) :: (Cond.static yJ2_length_9d52b) :: (Cond.code yJ2_length_9d52b cJ2_length_9d52b 1 (some .int)) :: (Cond.methodLink RJ2 414 yJ0_checkIndex_df160) :: (Cond.methodLink RJ2 71 yJ2_getChar_3b067) :: (Cond.static yJ2_getChar_3b067) :: (Cond.code yJ2_getChar_3b067 cJ2_getChar_3b067 2 (some .char)) :: (Cond.fieldLink RJ2 44 "java/lang/StringUTF16" "$assertionsDisabled" "Z") :: []
def wsX3_lettersStanding_r3 : List Cond := (Cond.fieldLink RJ2 59 "java/lang/StringUTF16" "HI_BYTE_SHIFT" "I") :: (Cond.fieldLink RJ2 63 "java/lang/StringUTF16" "LO_BYTE_SHIFT" "I") :: (Cond.methodLink RX3 78 yX3_stands) :: (Cond.instanceMethod yX3_stands) :: (Cond.selects RX3 yX3_stands yX3_stands) :: (Cond.initialized RX3) :: (Cond.code yX3_stands cX3_stands 3 (some .boolean)) :: (Cond.fieldLink RX3 18 "TheLiningsInIt$Reader" "size" "I") :: (Cond.fieldLink RX3 15 "TheLiningsInIt$Reader" "letters" "[I") :: []
def wsX3_lettersStanding : List Cond := (.code yX3_lettersStanding cX3_lettersStanding 3 (some .int)) :: ((wsX3_lettersStanding_r1 ++ (wsX3_lettersStanding_r2 ++ wsX3_lettersStanding_r3)) ++ wsX30)
def wsX3_takeWord : List Cond := (.code yX3_takeWord cX3_takeWord 3 (some .int)) :: (.fieldLink RX3 34 "TheLiningsInIt$Reader" "pulls" "I") :: (.fieldLink RX3 25 "TheLiningsInIt$Reader" "place" "I") :: (.fieldLink RX3 28 "TheLiningsInIt$Reader" "fault" "I") :: wsX30
def wsX3_readWord_r1 : List Cond := (Cond.methodLink RX3 98 Lib.Math.max.name) :: (Cond.static Lib.Math.max.name) :: (Cond.initialized "java/lang/Math") :: (Cond.code Lib.Math.max.name Lib.Math.max.code 2 (some .int)) :: (Cond.fieldLink RX3 25 "TheLiningsInIt$Reader" "place" "I") :: (Cond.fieldLink RX3 28 "TheLiningsInIt$Reader" "fault" "I") :: (Cond.methodLink RX3 82 yX3_wordAt) :: (Cond.static yX3_wordAt) :: (Cond.initialized RX3) :: (Cond.code yX3_wordAt cX3_wordAt 1 (some (.object "java/lang/String"))) :: (Cond.methodLink RX3 86 yX3_lettersStanding) :: (Cond.instanceMethod yX3_lettersStanding) :: (Cond.selects RX3 yX3_lettersStanding yX3_lettersStanding) :: (Cond.code yX3_lettersStanding cX3_lettersStanding 3 (some .int)) :: (Cond.methodLink RX3 90 yJ0_length_8abf5) :: (Cond.instanceMethod yJ0_length_8abf5) :: (Cond.selects RJ0 yJ0_length_8abf5 yJ0_length_8abf5) :: (Cond.initialized RJ0) :: (Cond.code yJ0_length_8abf5 cJ0_length_8abf5 1 (some .int)) :: (Cond.fieldLink RJ0 9 "java/lang/String" "value" "[B") :: (Cond.methodLink RJ0 335 yJ0_coder_7d493) :: (Cond.instanceMethod yJ0_coder_7d493) :: (Cond.selects RJ0 yJ0_coder_7d493 yJ0_coder_7d493) :: (Cond.code yJ0_coder_7d493 cJ0_coder_7d493 1 (some .byte)) :: []
def wsX3_readWord_r2 : List Cond := (Cond.fieldLink RJ0 38 "java/lang/String" "COMPACT_STRINGS" "Z") :: (Cond.fieldLink RJ0 15 "java/lang/String" "coder" "B") :: (Cond.methodLink RX3 101 yJ0_charAt_5068e) :: (Cond.instanceMethod yJ0_charAt_5068e) :: (Cond.selects RJ0 yJ0_charAt_5068e yJ0_charAt_5068e) :: (Cond.code yJ0_charAt_5068e cJ0_charAt_5068e 2 (some .char)) :: (Cond.methodLink RJ0 492 yJ0_isLatin1_aae02) :: (Cond.instanceMethod yJ0_isLatin1_aae02) :: (Cond.selects RJ0 yJ0_isLatin1_aae02 yJ0_isLatin1_aae02) :: (Cond.code yJ0_isLatin1_aae02 cJ0_isLatin1_aae02 1 (some .boolean)) :: (Cond.methodLink RJ0 495 yJ1_charAt_3b067) :: (Cond.static yJ1_charAt_3b067) :: (Cond.initialized RJ1) :: (Cond.code yJ1_charAt_3b067 cJ1_charAt_3b067 2 (some .char)) :: (Cond.methodLink RJ1 9 yJ0_checkIndex_df160) :: (Cond.static yJ0_checkIndex_df160) :: (Cond.code yJ0_checkIndex_df160 cJ0_checkIndex_df160 2 none) :: (Cond.fieldLink RJ0 1053 "jdk/internal/util/Preconditions" "SIOOBE_FORMATTER" "Ljava/util/function/BiFunction;") :: (Cond.methodLink RJ0 1059 yJ3_checkIndex_8e157) :: (Cond.static yJ3_checkIndex_8e157) :: (Cond.initialized RJ3) :: (Cond.code yJ3_checkIndex_8e157 cJ3_checkIndex_8e157 3 (some .int)) :: (Cond.methodLink RJ0 498 yJ2_charAt_3b067) :: (Cond.static yJ2_charAt_3b067) :: []
def wsX3_readWord_r3 : List Cond := (Cond.initialized RJ2) :: (Cond.code yJ2_charAt_3b067 cJ2_charAt_3b067 2 (some .char)) :: (Cond.methodLink RJ2 67 yJ2_checkIndex_2214a) :: (Cond.static yJ2_checkIndex_2214a) :: (Cond.code yJ2_checkIndex_2214a cJ2_checkIndex_2214a 2 none) :: (Cond.methodLink RJ2 48 yJ2_length_9d52b) :: (Cond.static yJ2_length_9d52b) :: (Cond.code yJ2_length_9d52b cJ2_length_9d52b 1 (some .int)) :: (Cond.methodLink RJ2 414 yJ0_checkIndex_df160) :: (Cond.methodLink RJ2 71 yJ2_getChar_3b067) :: (Cond.static yJ2_getChar_3b067) :: (Cond.code yJ2_getChar_3b067 cJ2_getChar_3b067 2 (some .char)) :: (Cond.fieldLink RJ2 44 "java/lang/StringUTF16" "$assertionsDisabled" "Z") :: (Cond.fieldLink RJ2 59 "java/lang/StringUTF16" "HI_BYTE_SHIFT" "I") :: (Cond.fieldLink RJ2 63 "java/lang/StringUTF16" "LO_BYTE_SHIFT" "I") :: (Cond.methodLink RX3 78 yX3_stands) :: (Cond.instanceMethod yX3_stands) :: (Cond.selects RX3 yX3_stands yX3_stands) :: (Cond.code yX3_stands cX3_stands 3 (some .boolean)) :: (Cond.fieldLink RX3 18 "TheLiningsInIt$Reader" "size" "I") :: (Cond.fieldLink RX3 15 "TheLiningsInIt$Reader" "letters" "[I") :: (Cond.methodLink RX3 95 yX3_takeWord) :: (Cond.instanceMethod yX3_takeWord) :: (Cond.selects RX3 yX3_takeWord yX3_takeWord) :: []
def wsX3_readWord_r4 : List Cond := (Cond.code yX3_takeWord cX3_takeWord 3 (some .int)) :: (Cond.fieldLink RX3 34 "TheLiningsInIt$Reader" "pulls" "I") :: []
def wsX3_readWord : List Cond := (.code yX3_readWord cX3_readWord 5 (some .int)) :: ((wsX3_readWord_r1 ++ (wsX3_readWord_r2 ++ (wsX3_readWord_r3 ++ wsX3_readWord_r4))) ++ wsX30)
def wsX3_numbersOf : List Cond := (.code yX3_numbersOf cX3_numbersOf 1 (some .int)) :: []
def wsX3_expect : List Cond := (.code yX3_expect cX3_expect 2 none) :: (.fieldLink RX3 25 "TheLiningsInIt$Reader" "place" "I") :: (.fieldLink RX3 28 "TheLiningsInIt$Reader" "fault" "I") :: (.methodLink RX3 78 yX3_stands) :: (.instanceMethod yX3_stands) :: (.selects RX3 yX3_stands yX3_stands) :: (.initialized RX3) :: (.code yX3_stands cX3_stands 3 (some .boolean)) :: (.fieldLink RX3 18 "TheLiningsInIt$Reader" "size" "I") :: (.fieldLink RX3 15 "TheLiningsInIt$Reader" "letters" "[I") :: wsX30
def wsX3_leastOf : List Cond := (.code yX3_leastOf cX3_leastOf 2 (some .int)) :: []
def wsX3_mostOf : List Cond := (.code yX3_mostOf cX3_mostOf 3 (some .int)) :: (.fieldLink RX3 31 "TheLiningsInIt$Reader" "teeth" "I") :: wsX30
def wsX3_isDigit : List Cond := (.code yX3_isDigit cX3_isDigit 1 (some .boolean)) :: []
def wsX3_readNumber : List Cond := (.code yX3_readNumber cX3_readNumber 5 (some .int)) :: (.fieldLink RX3 25 "TheLiningsInIt$Reader" "place" "I") :: (.fieldLink RX3 18 "TheLiningsInIt$Reader" "size" "I") :: (.fieldLink RX3 15 "TheLiningsInIt$Reader" "letters" "[I") :: (.fieldLink RX3 28 "TheLiningsInIt$Reader" "fault" "I") :: (.methodLink RX3 105 yX3_isDigit) :: (.static yX3_isDigit) :: (.initialized RX3) :: (.code yX3_isDigit cX3_isDigit 1 (some .boolean)) :: (.static yX7_within) :: (.initialized RX7) :: (.code yX7_within cX7_within 3 (some .boolean)) :: wsX30
def wsX3_readItem_r1 : List Cond := (Cond.fieldLink RX3 11 "TheLiningsInIt$Reader" "items" "[I") :: (Cond.fieldLink RX3 28 "TheLiningsInIt$Reader" "fault" "I") :: (Cond.fieldLink RX3 31 "TheLiningsInIt$Reader" "teeth" "I") :: (Cond.fieldLink RX3 34 "TheLiningsInIt$Reader" "pulls" "I") :: (Cond.methodLink RX3 62 yX3_readWord) :: (Cond.instanceMethod yX3_readWord) :: (Cond.selects RX3 yX3_readWord yX3_readWord) :: (Cond.initialized RX3) :: (Cond.code yX3_readWord cX3_readWord 5 (some .int)) :: (Cond.methodLink RX3 98 Lib.Math.max.name) :: (Cond.static Lib.Math.max.name) :: (Cond.initialized "java/lang/Math") :: (Cond.code Lib.Math.max.name Lib.Math.max.code 2 (some .int)) :: (Cond.fieldLink RX3 25 "TheLiningsInIt$Reader" "place" "I") :: (Cond.methodLink RX3 82 yX3_wordAt) :: (Cond.static yX3_wordAt) :: (Cond.code yX3_wordAt cX3_wordAt 1 (some (.object "java/lang/String"))) :: (Cond.methodLink RX3 86 yX3_lettersStanding) :: (Cond.instanceMethod yX3_lettersStanding) :: (Cond.selects RX3 yX3_lettersStanding yX3_lettersStanding) :: (Cond.code yX3_lettersStanding cX3_lettersStanding 3 (some .int)) :: (Cond.methodLink RX3 90 yJ0_length_8abf5) :: (Cond.instanceMethod yJ0_length_8abf5) :: (Cond.selects RJ0 yJ0_length_8abf5 yJ0_length_8abf5) :: []
def wsX3_readItem_r2 : List Cond := (Cond.initialized RJ0) :: (Cond.code yJ0_length_8abf5 cJ0_length_8abf5 1 (some .int)) :: (Cond.fieldLink RJ0 9 "java/lang/String" "value" "[B") :: (Cond.methodLink RJ0 335 yJ0_coder_7d493) :: (Cond.instanceMethod yJ0_coder_7d493) :: (Cond.selects RJ0 yJ0_coder_7d493 yJ0_coder_7d493) :: (Cond.code yJ0_coder_7d493 cJ0_coder_7d493 1 (some .byte)) :: (Cond.fieldLink RJ0 38 "java/lang/String" "COMPACT_STRINGS" "Z") :: (Cond.fieldLink RJ0 15 "java/lang/String" "coder" "B") :: (Cond.methodLink RX3 101 yJ0_charAt_5068e) :: (Cond.instanceMethod yJ0_charAt_5068e) :: (Cond.selects RJ0 yJ0_charAt_5068e yJ0_charAt_5068e) :: (Cond.code yJ0_charAt_5068e cJ0_charAt_5068e 2 (some .char)) :: (Cond.methodLink RJ0 492 yJ0_isLatin1_aae02) :: (Cond.instanceMethod yJ0_isLatin1_aae02) :: (Cond.selects RJ0 yJ0_isLatin1_aae02 yJ0_isLatin1_aae02) :: (Cond.code yJ0_isLatin1_aae02 cJ0_isLatin1_aae02 1 (some .boolean)) :: (Cond.methodLink RJ0 495 yJ1_charAt_3b067) :: (Cond.static yJ1_charAt_3b067) :: (Cond.initialized RJ1) :: (Cond.code yJ1_charAt_3b067 cJ1_charAt_3b067 2 (some .char)) :: (Cond.methodLink RJ1 9 yJ0_checkIndex_df160) :: (Cond.static yJ0_checkIndex_df160) :: (Cond.code yJ0_checkIndex_df160 cJ0_checkIndex_df160 2 none) :: []
def wsX3_readItem_r3 : List Cond := (Cond.fieldLink RJ0 1053 "jdk/internal/util/Preconditions" "SIOOBE_FORMATTER" "Ljava/util/function/BiFunction;") :: (Cond.methodLink RJ0 1059 yJ3_checkIndex_8e157) :: (Cond.static yJ3_checkIndex_8e157) :: (Cond.initialized RJ3) :: (Cond.code yJ3_checkIndex_8e157 cJ3_checkIndex_8e157 3 (some .int)) :: (Cond.methodLink RJ0 498 yJ2_charAt_3b067) :: (Cond.static yJ2_charAt_3b067) :: (Cond.initialized RJ2) :: (Cond.code yJ2_charAt_3b067 cJ2_charAt_3b067 2 (some .char)) :: (Cond.methodLink RJ2 67 yJ2_checkIndex_2214a) :: (Cond.static yJ2_checkIndex_2214a) :: (Cond.code yJ2_checkIndex_2214a cJ2_checkIndex_2214a 2 none) :: (Cond.methodLink RJ2 48 yJ2_length_9d52b) :: (Cond.static yJ2_length_9d52b) :: (Cond.code yJ2_length_9d52b cJ2_length_9d52b 1 (some .int)) :: (Cond.methodLink RJ2 414 yJ0_checkIndex_df160) :: (Cond.methodLink RJ2 71 yJ2_getChar_3b067) :: (Cond.static yJ2_getChar_3b067) :: (Cond.code yJ2_getChar_3b067 cJ2_getChar_3b067 2 (some .char)) :: (Cond.fieldLink RJ2 44 "java/lang/StringUTF16" "$assertionsDisabled" "Z") :: (Cond.fieldLink RJ2 59 "java/lang/StringUTF16" "HI_BYTE_SHIFT" "I") :: (Cond.fieldLink RJ2 63 "java/lang/StringUTF16" "LO_BYTE_SHIFT" "I") :: (Cond.methodLink RX3 78 yX3_stands) :: (Cond.instanceMethod yX3_stands) :: []
def wsX3_readItem_r4 : List Cond := (Cond.selects RX3 yX3_stands yX3_stands) :: (Cond.code yX3_stands cX3_stands 3 (some .boolean)) :: (Cond.fieldLink RX3 18 "TheLiningsInIt$Reader" "size" "I") :: (Cond.fieldLink RX3 15 "TheLiningsInIt$Reader" "letters" "[I") :: (Cond.methodLink RX3 95 yX3_takeWord) :: (Cond.instanceMethod yX3_takeWord) :: (Cond.selects RX3 yX3_takeWord yX3_takeWord) :: (Cond.code yX3_takeWord cX3_takeWord 3 (some .int)) :: (Cond.methodLink RX3 66 yX3_numbersOf) :: (Cond.static yX3_numbersOf) :: (Cond.code yX3_numbersOf cX3_numbersOf 1 (some .int)) :: (Cond.methodLink RX3 45 yX3_expect) :: (Cond.instanceMethod yX3_expect) :: (Cond.selects RX3 yX3_expect yX3_expect) :: (Cond.code yX3_expect cX3_expect 2 none) :: (Cond.methodLink RX3 69 yX3_leastOf) :: (Cond.static yX3_leastOf) :: (Cond.code yX3_leastOf cX3_leastOf 2 (some .int)) :: (Cond.methodLink RX3 72 yX3_mostOf) :: (Cond.instanceMethod yX3_mostOf) :: (Cond.selects RX3 yX3_mostOf yX3_mostOf) :: (Cond.code yX3_mostOf cX3_mostOf 3 (some .int)) :: (Cond.methodLink RX3 75 yX3_readNumber) :: (Cond.instanceMethod yX3_readNumber) :: []
def wsX3_readItem_r5 : List Cond := (Cond.selects RX3 yX3_readNumber yX3_readNumber) :: (Cond.code yX3_readNumber cX3_readNumber 5 (some .int)) :: (Cond.methodLink RX3 105 yX3_isDigit) :: (Cond.static yX3_isDigit) :: (Cond.code yX3_isDigit cX3_isDigit 1 (some .boolean)) :: (Cond.static yX7_within) :: (Cond.initialized RX7) :: (Cond.code yX7_within cX7_within 3 (some .boolean)) :: []
def wsX3_readItem : List Cond := (.code yX3_readItem cX3_readItem 4 none) :: ((wsX3_readItem_r1 ++ (wsX3_readItem_r2 ++ (wsX3_readItem_r3 ++ (wsX3_readItem_r4 ++ wsX3_readItem_r5)))) ++ wsX30)
def wsX3_read_r1 : List Cond := (Cond.fieldLink RX3 31 "TheLiningsInIt$Reader" "teeth" "I") :: (Cond.fieldLink RX3 34 "TheLiningsInIt$Reader" "pulls" "I") :: (Cond.fieldLink RX3 25 "TheLiningsInIt$Reader" "place" "I") :: (Cond.fieldLink RX3 28 "TheLiningsInIt$Reader" "fault" "I") :: (Cond.fieldLink RX3 22 "TheLiningsInIt$Reader" "count" "I") :: (Cond.fieldLink RX3 18 "TheLiningsInIt$Reader" "size" "I") :: (Cond.methodLink RX3 37 yX3_takeLetters) :: (Cond.instanceMethod yX3_takeLetters) :: (Cond.selects RX3 yX3_takeLetters yX3_takeLetters) :: (Cond.initialized RX3) :: (Cond.code yX3_takeLetters cX3_takeLetters 3 none) :: (Cond.fieldLink RX3 49 "TheLiningsInIt$Shelf" "size" "I") :: (Cond.methodLink RX3 52 Lib.Math.min.name) :: (Cond.static Lib.Math.min.name) :: (Cond.initialized "java/lang/Math") :: (Cond.code Lib.Math.min.name Lib.Math.min.code 2 (some .int)) :: (Cond.fieldLink RX3 15 "TheLiningsInIt$Reader" "letters" "[I") :: (Cond.methodLink RX3 58 yX4_tells) :: (Cond.instanceMethod yX4_tells) :: (Cond.selects RX4 yX4_tells yX4_tells) :: (Cond.initialized RX4) :: (Cond.code yX4_tells cX4_tells 2 (some .int)) :: (Cond.fieldLink RX4 9 "TheLiningsInIt$Shelf" "elements" "[J") :: (Cond.methodLink RX4 36 yX4_hasSpan) :: []
def wsX3_read_r2 : List Cond := (Cond.instanceMethod yX4_hasSpan) :: (Cond.selects RX4 yX4_hasSpan yX4_hasSpan) :: (Cond.code yX4_hasSpan cX4_hasSpan 3 (some .boolean)) :: (Cond.fieldLink RX4 19 "TheLiningsInIt$Shelf" "size" "I") :: (Cond.methodLink RX3 41 yX3_readItem) :: (Cond.instanceMethod yX3_readItem) :: (Cond.selects RX3 yX3_readItem yX3_readItem) :: (Cond.code yX3_readItem cX3_readItem 4 none) :: (Cond.fieldLink RX3 11 "TheLiningsInIt$Reader" "items" "[I") :: (Cond.methodLink RX3 62 yX3_readWord) :: (Cond.instanceMethod yX3_readWord) :: (Cond.selects RX3 yX3_readWord yX3_readWord) :: (Cond.code yX3_readWord cX3_readWord 5 (some .int)) :: (Cond.methodLink RX3 98 Lib.Math.max.name) :: (Cond.static Lib.Math.max.name) :: (Cond.code Lib.Math.max.name Lib.Math.max.code 2 (some .int)) :: (Cond.methodLink RX3 82 yX3_wordAt) :: (Cond.static yX3_wordAt) :: (Cond.code yX3_wordAt cX3_wordAt 1 (some (.object "java/lang/String"))) :: (Cond.methodLink RX3 86 yX3_lettersStanding) :: (Cond.instanceMethod yX3_lettersStanding) :: (Cond.selects RX3 yX3_lettersStanding yX3_lettersStanding) :: (Cond.code yX3_lettersStanding cX3_lettersStanding 3 (some .int)) :: (Cond.methodLink RX3 90 yJ0_length_8abf5) :: []
def wsX3_read_r3 : List Cond := (Cond.instanceMethod yJ0_length_8abf5) :: (Cond.selects RJ0 yJ0_length_8abf5 yJ0_length_8abf5) :: (Cond.initialized RJ0) :: (Cond.code yJ0_length_8abf5 cJ0_length_8abf5 1 (some .int)) :: (Cond.fieldLink RJ0 9 "java/lang/String" "value" "[B") :: (Cond.methodLink RJ0 335 yJ0_coder_7d493) :: (Cond.instanceMethod yJ0_coder_7d493) :: (Cond.selects RJ0 yJ0_coder_7d493 yJ0_coder_7d493) :: (Cond.code yJ0_coder_7d493 cJ0_coder_7d493 1 (some .byte)) :: (Cond.fieldLink RJ0 38 "java/lang/String" "COMPACT_STRINGS" "Z") :: (Cond.fieldLink RJ0 15 "java/lang/String" "coder" "B") :: (Cond.methodLink RX3 101 yJ0_charAt_5068e) :: (Cond.instanceMethod yJ0_charAt_5068e) :: (Cond.selects RJ0 yJ0_charAt_5068e yJ0_charAt_5068e) :: (Cond.code yJ0_charAt_5068e cJ0_charAt_5068e 2 (some .char)) :: (Cond.methodLink RJ0 492 yJ0_isLatin1_aae02) :: (Cond.instanceMethod yJ0_isLatin1_aae02) :: (Cond.selects RJ0 yJ0_isLatin1_aae02 yJ0_isLatin1_aae02) :: (Cond.code yJ0_isLatin1_aae02 cJ0_isLatin1_aae02 1 (some .boolean)) :: (Cond.methodLink RJ0 495 yJ1_charAt_3b067) :: (Cond.static yJ1_charAt_3b067) :: (Cond.initialized RJ1) :: (Cond.code yJ1_charAt_3b067 cJ1_charAt_3b067 2 (some .char)) :: (Cond.methodLink RJ1 9 yJ0_checkIndex_df160) :: []
def wsX3_read_r4 : List Cond := (Cond.static yJ0_checkIndex_df160) :: (Cond.code yJ0_checkIndex_df160 cJ0_checkIndex_df160 2 none) :: (Cond.fieldLink RJ0 1053 "jdk/internal/util/Preconditions" "SIOOBE_FORMATTER" "Ljava/util/function/BiFunction;") :: (Cond.methodLink RJ0 1059 yJ3_checkIndex_8e157) :: (Cond.static yJ3_checkIndex_8e157) :: (Cond.initialized RJ3) :: (Cond.code yJ3_checkIndex_8e157 cJ3_checkIndex_8e157 3 (some .int)) :: (Cond.methodLink RJ0 498 yJ2_charAt_3b067) :: (Cond.static yJ2_charAt_3b067) :: (Cond.initialized RJ2) :: (Cond.code yJ2_charAt_3b067 cJ2_charAt_3b067 2 (some .char)) :: (Cond.methodLink RJ2 67 yJ2_checkIndex_2214a) :: (Cond.static yJ2_checkIndex_2214a) :: (Cond.code yJ2_checkIndex_2214a cJ2_checkIndex_2214a 2 none) :: (Cond.methodLink RJ2 48 yJ2_length_9d52b) :: (Cond.static yJ2_length_9d52b) :: (Cond.code yJ2_length_9d52b cJ2_length_9d52b 1 (some .int)) :: (Cond.methodLink RJ2 414 yJ0_checkIndex_df160) :: (Cond.methodLink RJ2 71 yJ2_getChar_3b067) :: (Cond.static yJ2_getChar_3b067) :: (Cond.code yJ2_getChar_3b067 cJ2_getChar_3b067 2 (some .char)) :: (Cond.fieldLink RJ2 44 "java/lang/StringUTF16" "$assertionsDisabled" "Z") :: (Cond.fieldLink RJ2 59 "java/lang/StringUTF16" "HI_BYTE_SHIFT" "I") :: (Cond.fieldLink RJ2 63 "java/lang/StringUTF16" "LO_BYTE_SHIFT" "I") :: []
def wsX3_read_r5 : List Cond := (Cond.methodLink RX3 78 yX3_stands) :: (Cond.instanceMethod yX3_stands) :: (Cond.selects RX3 yX3_stands yX3_stands) :: (Cond.code yX3_stands cX3_stands 3 (some .boolean)) :: (Cond.methodLink RX3 95 yX3_takeWord) :: (Cond.instanceMethod yX3_takeWord) :: (Cond.selects RX3 yX3_takeWord yX3_takeWord) :: (Cond.code yX3_takeWord cX3_takeWord 3 (some .int)) :: (Cond.methodLink RX3 66 yX3_numbersOf) :: (Cond.static yX3_numbersOf) :: (Cond.code yX3_numbersOf cX3_numbersOf 1 (some .int)) :: (Cond.methodLink RX3 45 yX3_expect) :: (Cond.instanceMethod yX3_expect) :: (Cond.selects RX3 yX3_expect yX3_expect) :: (Cond.code yX3_expect cX3_expect 2 none) :: (Cond.methodLink RX3 69 yX3_leastOf) :: (Cond.static yX3_leastOf) :: (Cond.code yX3_leastOf cX3_leastOf 2 (some .int)) :: (Cond.methodLink RX3 72 yX3_mostOf) :: (Cond.instanceMethod yX3_mostOf) :: (Cond.selects RX3 yX3_mostOf yX3_mostOf) :: (Cond.code yX3_mostOf cX3_mostOf 3 (some .int)) :: (Cond.methodLink RX3 75 yX3_readNumber) :: (Cond.instanceMethod yX3_readNumber) :: []
def wsX3_read_r6 : List Cond := (Cond.selects RX3 yX3_readNumber yX3_readNumber) :: (Cond.code yX3_readNumber cX3_readNumber 5 (some .int)) :: (Cond.methodLink RX3 105 yX3_isDigit) :: (Cond.static yX3_isDigit) :: (Cond.code yX3_isDigit cX3_isDigit 1 (some .boolean)) :: (Cond.static yX7_within) :: (Cond.initialized RX7) :: (Cond.code yX7_within cX7_within 3 (some .boolean)) :: []
def wsX3_read : List Cond := (.code yX3_read cX3_read 5 (some .int)) :: ((wsX3_read_r1 ++ (wsX3_read_r2 ++ (wsX3_read_r3 ++ (wsX3_read_r4 ++ (wsX3_read_r5 ++ wsX3_read_r6))))) ++ wsX30 ++ wsX40)
def wsX3_tellItem_r1 : List Cond := (Cond.fieldLink RX3 11 "TheLiningsInIt$Reader" "items" "[I") :: (Cond.fieldLink RX3 136 "TheLiningsInIt$Jacket" "zip" "LTheLiningsInIt$Zip;") :: (Cond.fieldLink RX3 147 "TheLiningsInIt$Zip" "lacking" "[Z") :: (Cond.fieldLink RX3 151 "TheLiningsInIt$Zip" "slacks" "[I") :: (Cond.fieldLink RX3 158 "TheLiningsInIt$Jacket" "costs" "[I") :: (Cond.fieldLink RX3 161 "TheLiningsInIt$Zip" "at" "I") :: (Cond.methodLink RX3 142 yX6_renew) :: (Cond.instanceMethod yX6_renew) :: (Cond.selects RX6 yX6_renew yX6_renew) :: (Cond.initialized RX6) :: (Cond.code yX6_renew cX6_renew 3 none) :: (Cond.fieldLink RX6 19 "TheLiningsInIt$Zip" "size" "I") :: (Cond.fieldLink RX6 23 "TheLiningsInIt$Zip" "at" "I") :: (Cond.fieldLink RX6 9 "TheLiningsInIt$Zip" "lacking" "[Z") :: (Cond.fieldLink RX6 15 "TheLiningsInIt$Zip" "slacks" "[I") :: (Cond.methodLink RX3 154 yX0_addPull) :: (Cond.instanceMethod yX0_addPull) :: (Cond.selects RX0 yX0_addPull yX0_addPull) :: (Cond.initialized RX0) :: (Cond.code yX0_addPull cX0_addPull 4 (some .int)) :: (Cond.fieldLink RX0 28 "TheLiningsInIt$Jacket" "pullCount" "I") :: (Cond.fieldLink RX0 20 "TheLiningsInIt$Jacket" "pulls" "[LTheLiningsInIt$Pull;") :: (Cond.classLink RX0 18 RX2) :: (Cond.instantiable RX2 3) :: []
def wsX3_tellItem_r2 : List Cond := (Cond.initialized RX2) :: (Cond.methodLink RX0 70 yX2_init) :: (Cond.instanceMethod yX2_init) :: (Cond.code yX2_init cX2_init 4 none) :: (Cond.methodLink RX2 3 objectInit) :: (Cond.instanceMethod objectInit) :: (Cond.code objectInit ⟨#[0xb1]⟩ 1 none) :: (Cond.fieldLink RX2 9 "TheLiningsInIt$Pull" "kind" "I") :: (Cond.fieldLink RX2 15 "TheLiningsInIt$Pull" "a" "I") :: (Cond.fieldLink RX2 18 "TheLiningsInIt$Pull" "takes" "I") :: (Cond.methodLink RX3 163 yX0_setNumber) :: (Cond.instanceMethod yX0_setNumber) :: (Cond.selects RX0 yX0_setNumber yX0_setNumber) :: (Cond.code yX0_setNumber cX0_setNumber 3 none) :: (Cond.fieldLink RX0 32 "TheLiningsInIt$Jacket" "depth" "I") :: (Cond.fieldLink RX0 38 "TheLiningsInIt$Jacket" "seconds" "I") :: (Cond.fieldLink RX0 41 "TheLiningsInIt$Jacket" "hurry" "I") :: (Cond.fieldLink RX0 12 "TheLiningsInIt$Jacket" "zip" "LTheLiningsInIt$Zip;") :: (Cond.fieldLink RX0 60 "TheLiningsInIt$Zip" "gap" "I") :: (Cond.fieldLink RX0 63 "TheLiningsInIt$Zip" "at" "I") :: (Cond.fieldLink RX0 24 "TheLiningsInIt$Jacket" "costs" "[I") :: (Cond.static yX7_within) :: (Cond.initialized RX7) :: (Cond.code yX7_within cX7_within 3 (some .boolean)) :: []
def wsX3_tellItem : List Cond := (.code yX3_tellItem cX3_tellItem 5 none) :: ((wsX3_tellItem_r1 ++ wsX3_tellItem_r2) ++ wsX30 ++ wsX00 ++ wsX60 ++ wsX20)
def wsX3_tell_r1 : List Cond := (Cond.fieldLink RX3 22 "TheLiningsInIt$Reader" "count" "I") :: (Cond.methodLink RX3 132 yX3_tellItem) :: (Cond.instanceMethod yX3_tellItem) :: (Cond.selects RX3 yX3_tellItem yX3_tellItem) :: (Cond.initialized RX3) :: (Cond.code yX3_tellItem cX3_tellItem 5 none) :: (Cond.fieldLink RX3 11 "TheLiningsInIt$Reader" "items" "[I") :: (Cond.fieldLink RX3 136 "TheLiningsInIt$Jacket" "zip" "LTheLiningsInIt$Zip;") :: (Cond.fieldLink RX3 147 "TheLiningsInIt$Zip" "lacking" "[Z") :: (Cond.fieldLink RX3 151 "TheLiningsInIt$Zip" "slacks" "[I") :: (Cond.fieldLink RX3 158 "TheLiningsInIt$Jacket" "costs" "[I") :: (Cond.fieldLink RX3 161 "TheLiningsInIt$Zip" "at" "I") :: (Cond.methodLink RX3 142 yX6_renew) :: (Cond.instanceMethod yX6_renew) :: (Cond.selects RX6 yX6_renew yX6_renew) :: (Cond.initialized RX6) :: (Cond.code yX6_renew cX6_renew 3 none) :: (Cond.fieldLink RX6 19 "TheLiningsInIt$Zip" "size" "I") :: (Cond.fieldLink RX6 23 "TheLiningsInIt$Zip" "at" "I") :: (Cond.fieldLink RX6 9 "TheLiningsInIt$Zip" "lacking" "[Z") :: (Cond.fieldLink RX6 15 "TheLiningsInIt$Zip" "slacks" "[I") :: (Cond.methodLink RX3 154 yX0_addPull) :: (Cond.instanceMethod yX0_addPull) :: (Cond.selects RX0 yX0_addPull yX0_addPull) :: []
def wsX3_tell_r2 : List Cond := (Cond.initialized RX0) :: (Cond.code yX0_addPull cX0_addPull 4 (some .int)) :: (Cond.fieldLink RX0 28 "TheLiningsInIt$Jacket" "pullCount" "I") :: (Cond.fieldLink RX0 20 "TheLiningsInIt$Jacket" "pulls" "[LTheLiningsInIt$Pull;") :: (Cond.classLink RX0 18 RX2) :: (Cond.instantiable RX2 3) :: (Cond.initialized RX2) :: (Cond.methodLink RX0 70 yX2_init) :: (Cond.instanceMethod yX2_init) :: (Cond.code yX2_init cX2_init 4 none) :: (Cond.methodLink RX2 3 objectInit) :: (Cond.instanceMethod objectInit) :: (Cond.code objectInit ⟨#[0xb1]⟩ 1 none) :: (Cond.fieldLink RX2 9 "TheLiningsInIt$Pull" "kind" "I") :: (Cond.fieldLink RX2 15 "TheLiningsInIt$Pull" "a" "I") :: (Cond.fieldLink RX2 18 "TheLiningsInIt$Pull" "takes" "I") :: (Cond.methodLink RX3 163 yX0_setNumber) :: (Cond.instanceMethod yX0_setNumber) :: (Cond.selects RX0 yX0_setNumber yX0_setNumber) :: (Cond.code yX0_setNumber cX0_setNumber 3 none) :: (Cond.fieldLink RX0 32 "TheLiningsInIt$Jacket" "depth" "I") :: (Cond.fieldLink RX0 38 "TheLiningsInIt$Jacket" "seconds" "I") :: (Cond.fieldLink RX0 41 "TheLiningsInIt$Jacket" "hurry" "I") :: (Cond.fieldLink RX0 12 "TheLiningsInIt$Jacket" "zip" "LTheLiningsInIt$Zip;") :: []
def wsX3_tell_r3 : List Cond := (Cond.fieldLink RX0 60 "TheLiningsInIt$Zip" "gap" "I") :: (Cond.fieldLink RX0 63 "TheLiningsInIt$Zip" "at" "I") :: (Cond.fieldLink RX0 24 "TheLiningsInIt$Jacket" "costs" "[I") :: (Cond.static yX7_within) :: (Cond.initialized RX7) :: (Cond.code yX7_within cX7_within 3 (some .boolean)) :: []
def wsX3_tell : List Cond := (.code yX3_tell cX3_tell 3 none) :: ((wsX3_tell_r1 ++ (wsX3_tell_r2 ++ wsX3_tell_r3)) ++ wsX30 ++ wsX00 ++ wsX60 ++ wsX20)
set_option maxRecDepth 20000 in
theorem gl_X0_become_X60 : GoodIn wsX0_become wsX60 := (dg_t (dg_t (dg_t (dg_t (dg_t (dg_t (dg_t (dg_t (dg_t (dg_t (dg_t (dg_t (dg_t (dg_t (dg_t (dg_t (dg_t (dg_t (dg_t (dg_t (dg_t (dg_t (dg_t (dg_t (dg_r gw_wsX60)))))))))))))))))))))))))
theorem ggX0_become_X6_become : GoodIn wsX0_become wsX6_become := (dg_c 18 rfl rfl (dg_c 19 rfl rfl (dg_c 20 rfl rfl (dg_c 21 rfl rfl (dg_c 22 rfl rfl (dg_c 23 rfl rfl gl_X0_become_X60))))))
set_option maxRecDepth 20000 in
theorem gX0_become_X6_become : GoodIn wsX0_become (wsV RX0 47 RX6 yX6_become wsX6_become) := goodIn_app (dg_c 14 rfl rfl (dg_c 15 rfl rfl (dg_c 16 rfl rfl (dg_c 17 rfl rfl dg_0)))) ggX0_become_X6_become
theorem dX0_become_0 : decode cX0_become 0 = .ok (.aload_n 0, 1) := dq_42 dp_cX0_become rfl
theorem dX0_become_1 : decode cX0_become 1 = .ok (.getfield 12, 3) := dq_180 dp_cX0_become rfl
theorem dX0_become_4 : decode cX0_become 4 = .ok (.aload_n 1, 1) := dq_43 dp_cX0_become rfl
theorem dX0_become_5 : decode cX0_become 5 = .ok (.getfield 12, 3) := dq_180 dp_cX0_become rfl
theorem dX0_become_8 : decode cX0_become 8 = .ok (.invokevirtual 47, 3) := dq_182 dp_cX0_become rfl
theorem dX0_become_11 : decode cX0_become 11 = .ok (.iconst 0, 1) := dq_3 dp_cX0_become rfl
theorem dX0_become_12 : decode cX0_become 12 = .ok (.istore_n 2, 1) := dq_61 dp_cX0_become rfl
theorem dX0_become_13 : decode cX0_become 13 = .ok (.iload_n 2, 1) := dq_28 dp_cX0_become rfl
theorem dX0_become_14 : decode cX0_become 14 = .ok (.bipush 8, 2) := dq_16 (v := 8) dp_cX0_become rfl rfl
theorem dX0_become_16 : decode cX0_become 16 = .ok (.if_icmp .ge 21, 3) := dq_162 (v := 21) dp_cX0_become rfl rfl
theorem dX0_become_19 : decode cX0_become 19 = .ok (.aload_n 0, 1) := dq_42 dp_cX0_become rfl
theorem dX0_become_20 : decode cX0_become 20 = .ok (.getfield 20, 3) := dq_180 dp_cX0_become rfl
theorem dX0_become_23 : decode cX0_become 23 = .ok (.iload_n 2, 1) := dq_28 dp_cX0_become rfl
theorem dX0_become_24 : decode cX0_become 24 = .ok (.aload_n 1, 1) := dq_43 dp_cX0_become rfl
theorem dX0_become_25 : decode cX0_become 25 = .ok (.getfield 20, 3) := dq_180 dp_cX0_become rfl
theorem dX0_become_28 : decode cX0_become 28 = .ok (.iload_n 2, 1) := dq_28 dp_cX0_become rfl
theorem dX0_become_29 : decode cX0_become 29 = .ok (.aaload, 1) := dq_50 dp_cX0_become rfl
theorem dX0_become_30 : decode cX0_become 30 = .ok (.aastore, 1) := dq_83 dp_cX0_become rfl
theorem dX0_become_31 : decode cX0_become 31 = .ok (.iinc 2 1, 3) := dq_132 (v := 1) dp_cX0_become rfl (by decide) rfl
theorem dX0_become_34 : decode cX0_become 34 = .ok (.goto (-21), 3) := dq_167 (v := 65515) dp_cX0_become rfl rfl
theorem dX0_become_37 : decode cX0_become 37 = .ok (.aload_n 1, 1) := dq_43 dp_cX0_become rfl
theorem dX0_become_38 : decode cX0_become 38 = .ok (.getfield 24, 3) := dq_180 dp_cX0_become rfl
theorem dX0_become_41 : decode cX0_become 41 = .ok (.iconst 0, 1) := dq_3 dp_cX0_become rfl
theorem dX0_become_42 : decode cX0_become 42 = .ok (.aload_n 0, 1) := dq_42 dp_cX0_become rfl
theorem dX0_become_43 : decode cX0_become 43 = .ok (.getfield 24, 3) := dq_180 dp_cX0_become rfl
theorem dX0_become_46 : decode cX0_become 46 = .ok (.iconst 0, 1) := dq_3 dp_cX0_become rfl
theorem dX0_become_47 : decode cX0_become 47 = .ok (.iconst 3, 1) := dq_6 dp_cX0_become rfl
theorem dX0_become_48 : decode cX0_become 48 = .ok (.invokestatic 51, 3) := dq_184 dp_cX0_become rfl
theorem dX0_become_51 : decode cX0_become 51 = .ok (.aload_n 0, 1) := dq_42 dp_cX0_become rfl
theorem dX0_become_52 : decode cX0_become 52 = .ok (.aload_n 1, 1) := dq_43 dp_cX0_become rfl
theorem dX0_become_53 : decode cX0_become 53 = .ok (.getfield 28, 3) := dq_180 dp_cX0_become rfl
theorem dX0_become_56 : decode cX0_become 56 = .ok (.putfield 28, 3) := dq_181 dp_cX0_become rfl
theorem dX0_become_59 : decode cX0_become 59 = .ok (.aload_n 0, 1) := dq_42 dp_cX0_become rfl
theorem dX0_become_60 : decode cX0_become 60 = .ok (.aload_n 1, 1) := dq_43 dp_cX0_become rfl
theorem dX0_become_61 : decode cX0_become 61 = .ok (.getfield 32, 3) := dq_180 dp_cX0_become rfl
theorem dX0_become_64 : decode cX0_become 64 = .ok (.putfield 32, 3) := dq_181 dp_cX0_become rfl
theorem dX0_become_67 : decode cX0_become 67 = .ok (.aload_n 0, 1) := dq_42 dp_cX0_become rfl
theorem dX0_become_68 : decode cX0_become 68 = .ok (.aload_n 1, 1) := dq_43 dp_cX0_become rfl
theorem dX0_become_69 : decode cX0_become 69 = .ok (.getfield 35, 3) := dq_180 dp_cX0_become rfl
theorem dX0_become_72 : decode cX0_become 72 = .ok (.putfield 35, 3) := dq_181 dp_cX0_become rfl
theorem dX0_become_75 : decode cX0_become 75 = .ok (.aload_n 0, 1) := dq_42 dp_cX0_become rfl
theorem dX0_become_76 : decode cX0_become 76 = .ok (.aload_n 1, 1) := dq_43 dp_cX0_become rfl
theorem dX0_become_77 : decode cX0_become 77 = .ok (.getfield 38, 3) := dq_180 dp_cX0_become rfl
theorem dX0_become_80 : decode cX0_become 80 = .ok (.putfield 38, 3) := dq_181 dp_cX0_become rfl
theorem dX0_become_83 : decode cX0_become 83 = .ok (.aload_n 0, 1) := dq_42 dp_cX0_become rfl
theorem dX0_become_84 : decode cX0_become 84 = .ok (.aload_n 1, 1) := dq_43 dp_cX0_become rfl
theorem dX0_become_85 : decode cX0_become 85 = .ok (.getfield 41, 3) := dq_180 dp_cX0_become rfl
theorem dX0_become_88 : decode cX0_become 88 = .ok (.putfield 41, 3) := dq_181 dp_cX0_become rfl
theorem dX0_become_91 : decode cX0_become 91 = .ok (.aload_n 0, 1) := dq_42 dp_cX0_become rfl
theorem dX0_become_92 : decode cX0_become 92 = .ok (.aload_n 1, 1) := dq_43 dp_cX0_become rfl
theorem dX0_become_93 : decode cX0_become 93 = .ok (.getfield 44, 3) := dq_180 dp_cX0_become rfl
theorem dX0_become_96 : decode cX0_become 96 = .ok (.putfield 44, 3) := dq_181 dp_cX0_become rfl
theorem dX0_become_99 : decode cX0_become 99 = .ok (.return_, 1) := dq_177 dp_cX0_become rfl
set_option maxRecDepth 20000 in
theorem gl_X0_addPull_X20 : GoodIn wsX0_addPull wsX20 := (dg_t (dg_t (dg_t (dg_t (dg_t (dg_t (dg_t (dg_t (dg_t (dg_t (dg_t (dg_t (dg_t (dg_t (dg_t (dg_r gw_wsX20))))))))))))))))
theorem ggX0_addPull_X2_init : GoodIn wsX0_addPull wsX2_init := (dg_c 8 rfl rfl (dg_c 9 rfl rfl (dg_c 10 rfl rfl (dg_c 11 rfl rfl (dg_c 12 rfl rfl (dg_c 13 rfl rfl (dg_c 14 rfl rfl gl_X0_addPull_X20)))))))
set_option maxRecDepth 20000 in
theorem gX0_addPull_X2_init : GoodIn wsX0_addPull (wsX2_init) := ggX0_addPull_X2_init
theorem dX0_addPull_0 : decode cX0_addPull 0 = .ok (.aload_n 0, 1) := dq_42 dp_cX0_addPull rfl
theorem dX0_addPull_1 : decode cX0_addPull 1 = .ok (.getfield 28, 3) := dq_180 dp_cX0_addPull rfl
theorem dX0_addPull_4 : decode cX0_addPull 4 = .ok (.bipush 8, 2) := dq_16 (v := 8) dp_cX0_addPull rfl rfl
theorem dX0_addPull_6 : decode cX0_addPull 6 = .ok (.if_icmp .lt 5, 3) := dq_161 (v := 5) dp_cX0_addPull rfl rfl
theorem dX0_addPull_9 : decode cX0_addPull 9 = .ok (.iconst (-1), 1) := dq_2 dp_cX0_addPull rfl
theorem dX0_addPull_10 : decode cX0_addPull 10 = .ok (.ireturn, 1) := dq_172 dp_cX0_addPull rfl
theorem dX0_addPull_11 : decode cX0_addPull 11 = .ok (.aload_n 0, 1) := dq_42 dp_cX0_addPull rfl
theorem dX0_addPull_12 : decode cX0_addPull 12 = .ok (.getfield 20, 3) := dq_180 dp_cX0_addPull rfl
theorem dX0_addPull_15 : decode cX0_addPull 15 = .ok (.aload_n 0, 1) := dq_42 dp_cX0_addPull rfl
theorem dX0_addPull_16 : decode cX0_addPull 16 = .ok (.getfield 28, 3) := dq_180 dp_cX0_addPull rfl
theorem dX0_addPull_19 : decode cX0_addPull 19 = .ok (.new 18, 3) := dq_187 dp_cX0_addPull rfl
theorem dX0_addPull_22 : decode cX0_addPull 22 = .ok (.dup, 1) := dq_89 dp_cX0_addPull rfl
theorem dX0_addPull_23 : decode cX0_addPull 23 = .ok (.iload_n 1, 1) := dq_27 dp_cX0_addPull rfl
theorem dX0_addPull_24 : decode cX0_addPull 24 = .ok (.iload_n 2, 1) := dq_28 dp_cX0_addPull rfl
theorem dX0_addPull_25 : decode cX0_addPull 25 = .ok (.iload_n 3, 1) := dq_29 dp_cX0_addPull rfl
theorem dX0_addPull_26 : decode cX0_addPull 26 = .ok (.invokespecial 70, 3) := dq_183 dp_cX0_addPull rfl
theorem dX0_addPull_29 : decode cX0_addPull 29 = .ok (.aastore, 1) := dq_83 dp_cX0_addPull rfl
theorem dX0_addPull_30 : decode cX0_addPull 30 = .ok (.aload_n 0, 1) := dq_42 dp_cX0_addPull rfl
theorem dX0_addPull_31 : decode cX0_addPull 31 = .ok (.dup, 1) := dq_89 dp_cX0_addPull rfl
theorem dX0_addPull_32 : decode cX0_addPull 32 = .ok (.getfield 28, 3) := dq_180 dp_cX0_addPull rfl
theorem dX0_addPull_35 : decode cX0_addPull 35 = .ok (.dup_x1, 1) := dq_90 dp_cX0_addPull rfl
theorem dX0_addPull_36 : decode cX0_addPull 36 = .ok (.iconst 1, 1) := dq_4 dp_cX0_addPull rfl
theorem dX0_addPull_37 : decode cX0_addPull 37 = .ok (.iadd, 1) := dq_96 dp_cX0_addPull rfl
theorem dX0_addPull_38 : decode cX0_addPull 38 = .ok (.putfield 28, 3) := dq_181 dp_cX0_addPull rfl
theorem dX0_addPull_41 : decode cX0_addPull 41 = .ok (.ireturn, 1) := dq_172 dp_cX0_addPull rfl
theorem dX2_init_0 : decode cX2_init 0 = .ok (.aload_n 0, 1) := dq_42 dp_cX2_init rfl
theorem dX2_init_1 : decode cX2_init 1 = .ok (.invokespecial 3, 3) := dq_183 dp_cX2_init rfl
theorem dX2_init_4 : decode cX2_init 4 = .ok (.aload_n 0, 1) := dq_42 dp_cX2_init rfl
theorem dX2_init_5 : decode cX2_init 5 = .ok (.iload_n 1, 1) := dq_27 dp_cX2_init rfl
theorem dX2_init_6 : decode cX2_init 6 = .ok (.putfield 9, 3) := dq_181 dp_cX2_init rfl
theorem dX2_init_9 : decode cX2_init 9 = .ok (.aload_n 0, 1) := dq_42 dp_cX2_init rfl
theorem dX2_init_10 : decode cX2_init 10 = .ok (.iload_n 2, 1) := dq_28 dp_cX2_init rfl
theorem dX2_init_11 : decode cX2_init 11 = .ok (.putfield 15, 3) := dq_181 dp_cX2_init rfl
theorem dX2_init_14 : decode cX2_init 14 = .ok (.aload_n 0, 1) := dq_42 dp_cX2_init rfl
theorem dX2_init_15 : decode cX2_init 15 = .ok (.iload_n 3, 1) := dq_29 dp_cX2_init rfl
theorem dX2_init_16 : decode cX2_init 16 = .ok (.putfield 18, 3) := dq_181 dp_cX2_init rfl
theorem dX2_init_19 : decode cX2_init 19 = .ok (.return_, 1) := dq_177 dp_cX2_init rfl
set_option maxRecDepth 20000 in
theorem gl_X3_read_X40 : GoodIn wsX3_read wsX40 := (dg_t (dg_r gw_wsX40))
theorem gl_X3_read_X30 : GoodIn wsX3_read wsX30 := (dg_t (dg_l (dg_r gw_wsX30)))
theorem ggX3_read_X3_takeLetters : GoodIn wsX3_read wsX3_takeLetters := (dg_c 11 rfl rfl (dg_c 12 rfl rfl (dg_c 13 rfl rfl (dg_c 14 rfl rfl (dg_c 15 rfl rfl (dg_c 16 rfl rfl (dg_c 6 rfl rfl (dg_c 17 rfl rfl (dg_c 18 rfl rfl (dg_c 19 rfl rfl (dg_c 20 rfl rfl (dg_c 21 rfl rfl (dg_c 22 rfl rfl (dg_c 23 rfl rfl (dg_c 24 rfl rfl (dg_c 25 rfl rfl (dg_c 26 rfl rfl (dg_c 27 rfl rfl (dg_c 28 rfl rfl (goodIn_app gl_X3_read_X40 gl_X3_read_X30))))))))))))))))))))
set_option maxRecDepth 20000 in
theorem gX3_read_X3_takeLetters : GoodIn wsX3_read (wsV RX3 37 RX3 yX3_takeLetters wsX3_takeLetters) := goodIn_app (dg_c 7 rfl rfl (dg_c 8 rfl rfl (dg_c 9 rfl rfl (dg_c 10 rfl rfl dg_0)))) ggX3_read_X3_takeLetters
set_option maxRecDepth 20000 in
theorem ggX3_read_X3_readItem : GoodIn wsX3_read wsX3_readItem := (dg_c 32 rfl rfl (goodIn_app (goodIn_app (dg_c 33 rfl rfl (dg_c 4 rfl rfl (dg_c 1 rfl rfl (dg_c 2 rfl rfl (dg_c 34 rfl rfl (dg_c 35 rfl rfl (dg_c 36 rfl rfl (dg_c 10 rfl rfl (dg_c 37 rfl rfl (dg_c 38 rfl rfl (dg_c 39 rfl rfl (dg_c 15 rfl rfl (dg_c 40 rfl rfl (dg_c 3 rfl rfl (dg_c 41 rfl rfl (dg_c 42 rfl rfl (dg_c 43 rfl rfl (dg_c 44 rfl rfl (dg_c 45 rfl rfl (dg_c 46 rfl rfl (dg_c 47 rfl rfl (dg_c 48 rfl rfl (dg_c 49 rfl rfl (dg_c 50 rfl rfl dg_0)))))))))))))))))))))))) (goodIn_app (dg_c 51 rfl rfl (dg_c 52 rfl rfl (dg_c 53 rfl rfl (dg_c 54 rfl rfl (dg_c 55 rfl rfl (dg_c 56 rfl rfl (dg_c 57 rfl rfl (dg_c 58 rfl rfl (dg_c 59 rfl rfl (dg_c 60 rfl rfl (dg_c 61 rfl rfl (dg_c 62 rfl rfl (dg_c 63 rfl rfl (dg_c 64 rfl rfl (dg_c 65 rfl rfl (dg_c 66 rfl rfl (dg_c 67 rfl rfl (dg_c 68 rfl rfl (dg_c 69 rfl rfl (dg_c 70 rfl rfl (dg_c 71 rfl rfl (dg_c 72 rfl rfl (dg_c 73 rfl rfl (dg_c 74 rfl rfl dg_0)))))))))))))))))))))))) (goodIn_app (dg_c 75 rfl rfl (dg_c 76 rfl rfl (dg_c 77 rfl rfl (dg_c 78 rfl rfl (dg_c 79 rfl rfl (dg_c 80 rfl rfl (dg_c 81 rfl rfl (dg_c 82 rfl rfl (dg_c 83 rfl rfl (dg_c 84 rfl rfl (dg_c 85 rfl rfl (dg_c 86 rfl rfl (dg_c 87 rfl rfl (dg_c 88 rfl rfl (dg_c 89 rfl rfl (dg_c 90 rfl rfl (dg_c 91 rfl rfl (dg_c 92 rfl rfl (dg_c 93 rfl rfl (dg_c 94 rfl rfl (dg_c 95 rfl rfl (dg_c 96 rfl rfl (dg_c 97 rfl rfl (dg_c 98 rfl rfl dg_0)))))))))))))))))))))))) (goodIn_app (dg_c 99 rfl rfl (dg_c 100 rfl rfl (dg_c 6 rfl rfl (dg_c 17 rfl rfl (dg_c 101 rfl rfl (dg_c 102 rfl rfl (dg_c 103 rfl rfl (dg_c 104 rfl rfl (dg_c 105 rfl rfl (dg_c 106 rfl rfl (dg_c 107 rfl rfl (dg_c 108 rfl rfl (dg_c 109 rfl rfl (dg_c 110 rfl rfl (dg_c 111 rfl rfl (dg_c 112 rfl rfl (dg_c 113 rfl rfl (dg_c 114 rfl rfl (dg_c 115 rfl rfl (dg_c 116 rfl rfl (dg_c 117 rfl rfl (dg_c 118 rfl rfl (dg_c 119 rfl rfl (dg_c 120 rfl rfl dg_0)))))))))))))))))))))))) (dg_c 121 rfl rfl (dg_c 122 rfl rfl (dg_c 123 rfl rfl (dg_c 124 rfl rfl (dg_c 125 rfl rfl (dg_c 126 rfl rfl (dg_c 127 rfl rfl (dg_c 128 rfl rfl dg_0)))))))))))) gl_X3_read_X30))
set_option maxRecDepth 20000 in
theorem gX3_read_X3_readItem : GoodIn wsX3_read (wsV RX3 41 RX3 yX3_readItem wsX3_readItem) := goodIn_app (dg_c 29 rfl rfl (dg_c 30 rfl rfl (dg_c 31 rfl rfl (dg_c 10 rfl rfl dg_0)))) ggX3_read_X3_readItem
set_option maxRecDepth 20000 in
theorem ggX3_read_X3_expect : GoodIn wsX3_read wsX3_expect := (dg_c 111 rfl rfl (dg_c 3 rfl rfl (dg_c 4 rfl rfl (dg_c 97 rfl rfl (dg_c 98 rfl rfl (dg_c 99 rfl rfl (dg_c 10 rfl rfl (dg_c 100 rfl rfl (dg_c 6 rfl rfl (dg_c 17 rfl rfl gl_X3_read_X30))))))))))
set_option maxRecDepth 20000 in
theorem gX3_read_X3_expect : GoodIn wsX3_read (wsV RX3 45 RX3 yX3_expect wsX3_expect) := goodIn_app (dg_c 108 rfl rfl (dg_c 109 rfl rfl (dg_c 110 rfl rfl (dg_c 10 rfl rfl dg_0)))) ggX3_read_X3_expect
theorem dX3_read_0 : decode cX3_read 0 = .ok (.aload_n 0, 1) := dq_42 dp_cX3_read rfl
theorem dX3_read_1 : decode cX3_read 1 = .ok (.aload_n 1, 1) := dq_43 dp_cX3_read rfl
theorem dX3_read_2 : decode cX3_read 2 = .ok (.invokevirtual 37, 3) := dq_182 dp_cX3_read rfl
theorem dX3_read_5 : decode cX3_read 5 = .ok (.aload_n 0, 1) := dq_42 dp_cX3_read rfl
theorem dX3_read_6 : decode cX3_read 6 = .ok (.iload_n 2, 1) := dq_28 dp_cX3_read rfl
theorem dX3_read_7 : decode cX3_read 7 = .ok (.putfield 31, 3) := dq_181 dp_cX3_read rfl
theorem dX3_read_10 : decode cX3_read 10 = .ok (.aload_n 0, 1) := dq_42 dp_cX3_read rfl
theorem dX3_read_11 : decode cX3_read 11 = .ok (.iload_n 3, 1) := dq_29 dp_cX3_read rfl
theorem dX3_read_12 : decode cX3_read 12 = .ok (.putfield 34, 3) := dq_181 dp_cX3_read rfl
theorem dX3_read_15 : decode cX3_read 15 = .ok (.aload_n 0, 1) := dq_42 dp_cX3_read rfl
theorem dX3_read_16 : decode cX3_read 16 = .ok (.iconst 0, 1) := dq_3 dp_cX3_read rfl
theorem dX3_read_17 : decode cX3_read 17 = .ok (.putfield 25, 3) := dq_181 dp_cX3_read rfl
theorem dX3_read_20 : decode cX3_read 20 = .ok (.aload_n 0, 1) := dq_42 dp_cX3_read rfl
theorem dX3_read_21 : decode cX3_read 21 = .ok (.iconst (-1), 1) := dq_2 dp_cX3_read rfl
theorem dX3_read_22 : decode cX3_read 22 = .ok (.putfield 28, 3) := dq_181 dp_cX3_read rfl
theorem dX3_read_25 : decode cX3_read 25 = .ok (.iconst 1, 1) := dq_4 dp_cX3_read rfl
theorem dX3_read_26 : decode cX3_read 26 = .ok (.istore 4, 2) := dq_54 dp_cX3_read rfl
theorem dX3_read_28 : decode cX3_read 28 = .ok (.aload_n 0, 1) := dq_42 dp_cX3_read rfl
theorem dX3_read_29 : decode cX3_read 29 = .ok (.iconst 0, 1) := dq_3 dp_cX3_read rfl
theorem dX3_read_30 : decode cX3_read 30 = .ok (.putfield 22, 3) := dq_181 dp_cX3_read rfl
theorem dX3_read_33 : decode cX3_read 33 = .ok (.iload 4, 2) := dq_21 dp_cX3_read rfl
theorem dX3_read_35 : decode cX3_read 35 = .ok (.ifCond .eq 87, 3) := dq_153 (v := 87) dp_cX3_read rfl rfl
theorem dX3_read_38 : decode cX3_read 38 = .ok (.aload_n 0, 1) := dq_42 dp_cX3_read rfl
theorem dX3_read_39 : decode cX3_read 39 = .ok (.getfield 22, 3) := dq_180 dp_cX3_read rfl
theorem dX3_read_42 : decode cX3_read 42 = .ok (.bipush 33, 2) := dq_16 (v := 33) dp_cX3_read rfl rfl
theorem dX3_read_44 : decode cX3_read 44 = .ok (.if_icmp .ge 78, 3) := dq_162 (v := 78) dp_cX3_read rfl rfl
theorem dX3_read_47 : decode cX3_read 47 = .ok (.aload_n 0, 1) := dq_42 dp_cX3_read rfl
theorem dX3_read_48 : decode cX3_read 48 = .ok (.aload_n 0, 1) := dq_42 dp_cX3_read rfl
theorem dX3_read_49 : decode cX3_read 49 = .ok (.getfield 22, 3) := dq_180 dp_cX3_read rfl
theorem dX3_read_52 : decode cX3_read 52 = .ok (.iconst 4, 1) := dq_7 dp_cX3_read rfl
theorem dX3_read_53 : decode cX3_read 53 = .ok (.imul, 1) := dq_104 dp_cX3_read rfl
theorem dX3_read_54 : decode cX3_read 54 = .ok (.invokevirtual 41, 3) := dq_182 dp_cX3_read rfl
theorem dX3_read_57 : decode cX3_read 57 = .ok (.aload_n 0, 1) := dq_42 dp_cX3_read rfl
theorem dX3_read_58 : decode cX3_read 58 = .ok (.getfield 28, 3) := dq_180 dp_cX3_read rfl
theorem dX3_read_61 : decode cX3_read 61 = .ok (.iconst (-1), 1) := dq_2 dp_cX3_read rfl
theorem dX3_read_62 : decode cX3_read 62 = .ok (.if_icmp .ne 18, 3) := dq_160 (v := 18) dp_cX3_read rfl rfl
theorem dX3_read_65 : decode cX3_read 65 = .ok (.aload_n 0, 1) := dq_42 dp_cX3_read rfl
theorem dX3_read_66 : decode cX3_read 66 = .ok (.getfield 25, 3) := dq_180 dp_cX3_read rfl
theorem dX3_read_69 : decode cX3_read 69 = .ok (.aload_n 0, 1) := dq_42 dp_cX3_read rfl
theorem dX3_read_70 : decode cX3_read 70 = .ok (.getfield 18, 3) := dq_180 dp_cX3_read rfl
theorem dX3_read_73 : decode cX3_read 73 = .ok (.if_icmp .ge 7, 3) := dq_162 (v := 7) dp_cX3_read rfl rfl
theorem dX3_read_76 : decode cX3_read 76 = .ok (.iconst 1, 1) := dq_4 dp_cX3_read rfl
theorem dX3_read_77 : decode cX3_read 77 = .ok (.goto 4, 3) := dq_167 (v := 4) dp_cX3_read rfl rfl
theorem dX3_read_80 : decode cX3_read 80 = .ok (.iconst 0, 1) := dq_3 dp_cX3_read rfl
theorem dX3_read_81 : decode cX3_read 81 = .ok (.istore 4, 2) := dq_54 dp_cX3_read rfl
theorem dX3_read_83 : decode cX3_read 83 = .ok (.iload 4, 2) := dq_21 dp_cX3_read rfl
theorem dX3_read_85 : decode cX3_read 85 = .ok (.ifCond .eq 24, 3) := dq_153 (v := 24) dp_cX3_read rfl rfl
theorem dX3_read_88 : decode cX3_read 88 = .ok (.aload_n 0, 1) := dq_42 dp_cX3_read rfl
theorem dX3_read_89 : decode cX3_read 89 = .ok (.bipush 59, 2) := dq_16 (v := 59) dp_cX3_read rfl rfl
theorem dX3_read_91 : decode cX3_read 91 = .ok (.invokevirtual 45, 3) := dq_182 dp_cX3_read rfl
theorem dX3_read_94 : decode cX3_read 94 = .ok (.aload_n 0, 1) := dq_42 dp_cX3_read rfl
theorem dX3_read_95 : decode cX3_read 95 = .ok (.getfield 28, 3) := dq_180 dp_cX3_read rfl
theorem dX3_read_98 : decode cX3_read 98 = .ok (.iconst (-1), 1) := dq_2 dp_cX3_read rfl
theorem dX3_read_99 : decode cX3_read 99 = .ok (.if_icmp .ne 7, 3) := dq_160 (v := 7) dp_cX3_read rfl rfl
theorem dX3_read_102 : decode cX3_read 102 = .ok (.iconst 1, 1) := dq_4 dp_cX3_read rfl
theorem dX3_read_103 : decode cX3_read 103 = .ok (.goto 4, 3) := dq_167 (v := 4) dp_cX3_read rfl rfl
theorem dX3_read_106 : decode cX3_read 106 = .ok (.iconst 0, 1) := dq_3 dp_cX3_read rfl
theorem dX3_read_107 : decode cX3_read 107 = .ok (.istore 4, 2) := dq_54 dp_cX3_read rfl
theorem dX3_read_109 : decode cX3_read 109 = .ok (.aload_n 0, 1) := dq_42 dp_cX3_read rfl
theorem dX3_read_110 : decode cX3_read 110 = .ok (.dup, 1) := dq_89 dp_cX3_read rfl
theorem dX3_read_111 : decode cX3_read 111 = .ok (.getfield 22, 3) := dq_180 dp_cX3_read rfl
theorem dX3_read_114 : decode cX3_read 114 = .ok (.iconst 1, 1) := dq_4 dp_cX3_read rfl
theorem dX3_read_115 : decode cX3_read 115 = .ok (.iadd, 1) := dq_96 dp_cX3_read rfl
theorem dX3_read_116 : decode cX3_read 116 = .ok (.putfield 22, 3) := dq_181 dp_cX3_read rfl
theorem dX3_read_119 : decode cX3_read 119 = .ok (.goto (-86), 3) := dq_167 (v := 65450) dp_cX3_read rfl rfl
theorem dX3_read_122 : decode cX3_read 122 = .ok (.aload_n 0, 1) := dq_42 dp_cX3_read rfl
theorem dX3_read_123 : decode cX3_read 123 = .ok (.getfield 28, 3) := dq_180 dp_cX3_read rfl
theorem dX3_read_126 : decode cX3_read 126 = .ok (.ireturn, 1) := dq_172 dp_cX3_read rfl
set_option maxRecDepth 20000 in
theorem gl_X3_takeLetters_X40 : GoodIn wsX3_takeLetters wsX40 := (dg_t (dg_t (dg_t (dg_t (dg_t (dg_t (dg_t (dg_t (dg_t (dg_t (dg_t (dg_t (dg_t (dg_t (dg_t (dg_t (dg_t (dg_t (dg_t (dg_l gw_wsX40))))))))))))))))))))
theorem ggX3_takeLetters_X4_tells : GoodIn wsX3_takeLetters wsX4_tells := (dg_c 12 rfl rfl (dg_c 13 rfl rfl (dg_c 14 rfl rfl (dg_c 15 rfl rfl (dg_c 16 rfl rfl (dg_c 11 rfl rfl (dg_c 17 rfl rfl (dg_c 18 rfl rfl gl_X3_takeLetters_X40))))))))
set_option maxRecDepth 20000 in
theorem gX3_takeLetters_X4_tells : GoodIn wsX3_takeLetters (wsV RX3 58 RX4 yX4_tells wsX4_tells) := goodIn_app (dg_c 8 rfl rfl (dg_c 9 rfl rfl (dg_c 10 rfl rfl (dg_c 11 rfl rfl dg_0)))) ggX3_takeLetters_X4_tells
theorem dX3_takeLetters_0 : decode cX3_takeLetters 0 = .ok (.aload_n 0, 1) := dq_42 dp_cX3_takeLetters rfl
theorem dX3_takeLetters_1 : decode cX3_takeLetters 1 = .ok (.aload_n 1, 1) := dq_43 dp_cX3_takeLetters rfl
theorem dX3_takeLetters_2 : decode cX3_takeLetters 2 = .ok (.getfield 49, 3) := dq_180 dp_cX3_takeLetters rfl
theorem dX3_takeLetters_5 : decode cX3_takeLetters 5 = .ok (.sipush 160, 3) := dq_17 (v := 160) dp_cX3_takeLetters rfl rfl
theorem dX3_takeLetters_8 : decode cX3_takeLetters 8 = .ok (.invokestatic 52, 3) := dq_184 dp_cX3_takeLetters rfl
theorem dX3_takeLetters_11 : decode cX3_takeLetters 11 = .ok (.putfield 18, 3) := dq_181 dp_cX3_takeLetters rfl
theorem dX3_takeLetters_14 : decode cX3_takeLetters 14 = .ok (.iconst 0, 1) := dq_3 dp_cX3_takeLetters rfl
theorem dX3_takeLetters_15 : decode cX3_takeLetters 15 = .ok (.istore_n 2, 1) := dq_61 dp_cX3_takeLetters rfl
theorem dX3_takeLetters_16 : decode cX3_takeLetters 16 = .ok (.iload_n 2, 1) := dq_28 dp_cX3_takeLetters rfl
theorem dX3_takeLetters_17 : decode cX3_takeLetters 17 = .ok (.aload_n 0, 1) := dq_42 dp_cX3_takeLetters rfl
theorem dX3_takeLetters_18 : decode cX3_takeLetters 18 = .ok (.getfield 18, 3) := dq_180 dp_cX3_takeLetters rfl
theorem dX3_takeLetters_21 : decode cX3_takeLetters 21 = .ok (.if_icmp .ge 20, 3) := dq_162 (v := 20) dp_cX3_takeLetters rfl rfl
theorem dX3_takeLetters_24 : decode cX3_takeLetters 24 = .ok (.aload_n 0, 1) := dq_42 dp_cX3_takeLetters rfl
theorem dX3_takeLetters_25 : decode cX3_takeLetters 25 = .ok (.getfield 15, 3) := dq_180 dp_cX3_takeLetters rfl
theorem dX3_takeLetters_28 : decode cX3_takeLetters 28 = .ok (.iload_n 2, 1) := dq_28 dp_cX3_takeLetters rfl
theorem dX3_takeLetters_29 : decode cX3_takeLetters 29 = .ok (.aload_n 1, 1) := dq_43 dp_cX3_takeLetters rfl
theorem dX3_takeLetters_30 : decode cX3_takeLetters 30 = .ok (.iload_n 2, 1) := dq_28 dp_cX3_takeLetters rfl
theorem dX3_takeLetters_31 : decode cX3_takeLetters 31 = .ok (.invokevirtual 58, 3) := dq_182 dp_cX3_takeLetters rfl
theorem dX3_takeLetters_34 : decode cX3_takeLetters 34 = .ok (.iastore, 1) := dq_79 dp_cX3_takeLetters rfl
theorem dX3_takeLetters_35 : decode cX3_takeLetters 35 = .ok (.iinc 2 1, 3) := dq_132 (v := 1) dp_cX3_takeLetters rfl (by decide) rfl
theorem dX3_takeLetters_38 : decode cX3_takeLetters 38 = .ok (.goto (-22), 3) := dq_167 (v := 65514) dp_cX3_takeLetters rfl rfl
theorem dX3_takeLetters_41 : decode cX3_takeLetters 41 = .ok (.return_, 1) := dq_177 dp_cX3_takeLetters rfl
set_option maxRecDepth 20000 in
theorem gl_X3_readItem_X30 : GoodIn wsX3_readItem wsX30 := (dg_t (dg_r gw_wsX30))
theorem ggX3_readItem_X3_readWord : GoodIn wsX3_readItem wsX3_readWord := (dg_c 9 rfl rfl (goodIn_app (goodIn_app (dg_c 10 rfl rfl (dg_c 11 rfl rfl (dg_c 12 rfl rfl (dg_c 13 rfl rfl (dg_c 14 rfl rfl (dg_c 2 rfl rfl (dg_c 15 rfl rfl (dg_c 16 rfl rfl (dg_c 8 rfl rfl (dg_c 17 rfl rfl (dg_c 18 rfl rfl (dg_c 19 rfl rfl (dg_c 20 rfl rfl (dg_c 21 rfl rfl (dg_c 22 rfl rfl (dg_c 23 rfl rfl (dg_c 24 rfl rfl (dg_c 25 rfl rfl (dg_c 26 rfl rfl (dg_c 27 rfl rfl (dg_c 28 rfl rfl (dg_c 29 rfl rfl (dg_c 30 rfl rfl (dg_c 31 rfl rfl dg_0)))))))))))))))))))))))) (goodIn_app (dg_c 32 rfl rfl (dg_c 33 rfl rfl (dg_c 34 rfl rfl (dg_c 35 rfl rfl (dg_c 36 rfl rfl (dg_c 37 rfl rfl (dg_c 38 rfl rfl (dg_c 39 rfl rfl (dg_c 40 rfl rfl (dg_c 41 rfl rfl (dg_c 42 rfl rfl (dg_c 43 rfl rfl (dg_c 44 rfl rfl (dg_c 45 rfl rfl (dg_c 46 rfl rfl (dg_c 47 rfl rfl (dg_c 48 rfl rfl (dg_c 49 rfl rfl (dg_c 50 rfl rfl (dg_c 51 rfl rfl (dg_c 52 rfl rfl (dg_c 53 rfl rfl (dg_c 54 rfl rfl (dg_c 55 rfl rfl dg_0)))))))))))))))))))))))) (goodIn_app (dg_c 56 rfl rfl (dg_c 57 rfl rfl (dg_c 58 rfl rfl (dg_c 59 rfl rfl (dg_c 60 rfl rfl (dg_c 61 rfl rfl (dg_c 62 rfl rfl (dg_c 63 rfl rfl (dg_c 64 rfl rfl (dg_c 65 rfl rfl (dg_c 66 rfl rfl (dg_c 67 rfl rfl (dg_c 68 rfl rfl (dg_c 69 rfl rfl (dg_c 70 rfl rfl (dg_c 71 rfl rfl (dg_c 72 rfl rfl (dg_c 73 rfl rfl (dg_c 74 rfl rfl (dg_c 75 rfl rfl (dg_c 76 rfl rfl (dg_c 77 rfl rfl (dg_c 78 rfl rfl (dg_c 79 rfl rfl dg_0)))))))))))))))))))))))) (dg_c 80 rfl rfl (dg_c 4 rfl rfl dg_0))))) gl_X3_readItem_X30))
set_option maxRecDepth 20000 in
theorem gX3_readItem_X3_readWord : GoodIn wsX3_readItem (wsV RX3 62 RX3 yX3_readWord wsX3_readWord) := goodIn_app (dg_c 5 rfl rfl (dg_c 6 rfl rfl (dg_c 7 rfl rfl (dg_c 8 rfl rfl dg_0)))) ggX3_readItem_X3_readWord
set_option maxRecDepth 20000 in
theorem ggX3_readItem_X3_numbersOf : GoodIn wsX3_readItem wsX3_numbersOf := (dg_c 83 rfl rfl dg_0)
set_option maxRecDepth 20000 in
theorem gX3_readItem_X3_numbersOf : GoodIn wsX3_readItem (va_wsS RX3 66 yX3_numbersOf wsX3_numbersOf) := goodIn_app (dg_c 81 rfl rfl (dg_c 82 rfl rfl (dg_c 8 rfl rfl dg_0))) ggX3_readItem_X3_numbersOf
set_option maxRecDepth 20000 in
theorem ggX3_readItem_X3_expect : GoodIn wsX3_readItem wsX3_expect := (dg_c 87 rfl rfl (dg_c 14 rfl rfl (dg_c 2 rfl rfl (dg_c 71 rfl rfl (dg_c 72 rfl rfl (dg_c 73 rfl rfl (dg_c 8 rfl rfl (dg_c 74 rfl rfl (dg_c 75 rfl rfl (dg_c 76 rfl rfl gl_X3_readItem_X30))))))))))
set_option maxRecDepth 20000 in
theorem gX3_readItem_X3_expect : GoodIn wsX3_readItem (wsV RX3 45 RX3 yX3_expect wsX3_expect) := goodIn_app (dg_c 84 rfl rfl (dg_c 85 rfl rfl (dg_c 86 rfl rfl (dg_c 8 rfl rfl dg_0)))) ggX3_readItem_X3_expect
set_option maxRecDepth 20000 in
theorem ggX3_readItem_X3_leastOf : GoodIn wsX3_readItem wsX3_leastOf := (dg_c 90 rfl rfl dg_0)
set_option maxRecDepth 20000 in
theorem gX3_readItem_X3_leastOf : GoodIn wsX3_readItem (va_wsS RX3 69 yX3_leastOf wsX3_leastOf) := goodIn_app (dg_c 88 rfl rfl (dg_c 89 rfl rfl (dg_c 8 rfl rfl dg_0))) ggX3_readItem_X3_leastOf
set_option maxRecDepth 20000 in
theorem ggX3_readItem_X3_mostOf : GoodIn wsX3_readItem wsX3_mostOf := (dg_c 94 rfl rfl (dg_c 3 rfl rfl gl_X3_readItem_X30))
set_option maxRecDepth 20000 in
theorem gX3_readItem_X3_mostOf : GoodIn wsX3_readItem (wsV RX3 72 RX3 yX3_mostOf wsX3_mostOf) := goodIn_app (dg_c 91 rfl rfl (dg_c 92 rfl rfl (dg_c 93 rfl rfl (dg_c 8 rfl rfl dg_0)))) ggX3_readItem_X3_mostOf
set_option maxRecDepth 20000 in
theorem ggX3_readItem_X3_readNumber : GoodIn wsX3_readItem wsX3_readNumber := (dg_c 98 rfl rfl (dg_c 14 rfl rfl (dg_c 75 rfl rfl (dg_c 76 rfl rfl (dg_c 2 rfl rfl (dg_c 99 rfl rfl (dg_c 100 rfl rfl (dg_c 8 rfl rfl (dg_c 101 rfl rfl (dg_c 102 rfl rfl (dg_c 103 rfl rfl (dg_c 104 rfl rfl gl_X3_readItem_X30))))))))))))
set_option maxRecDepth 20000 in
theorem gX3_readItem_X3_readNumber : GoodIn wsX3_readItem (wsV RX3 75 RX3 yX3_readNumber wsX3_readNumber) := goodIn_app (dg_c 95 rfl rfl (dg_c 96 rfl rfl (dg_c 97 rfl rfl (dg_c 8 rfl rfl dg_0)))) ggX3_readItem_X3_readNumber
theorem dX3_readItem_0 : decode cX3_readItem 0 = .ok (.aload_n 0, 1) := dq_42 dp_cX3_readItem rfl
theorem dX3_readItem_1 : decode cX3_readItem 1 = .ok (.invokevirtual 62, 3) := dq_182 dp_cX3_readItem rfl
theorem dX3_readItem_4 : decode cX3_readItem 4 = .ok (.istore_n 2, 1) := dq_61 dp_cX3_readItem rfl
theorem dX3_readItem_5 : decode cX3_readItem 5 = .ok (.iload_n 2, 1) := dq_28 dp_cX3_readItem rfl
theorem dX3_readItem_6 : decode cX3_readItem 6 = .ok (.iconst (-1), 1) := dq_2 dp_cX3_readItem rfl
theorem dX3_readItem_7 : decode cX3_readItem 7 = .ok (.if_icmp .ne 4, 3) := dq_160 (v := 4) dp_cX3_readItem rfl rfl
theorem dX3_readItem_10 : decode cX3_readItem 10 = .ok (.return_, 1) := dq_177 dp_cX3_readItem rfl
theorem dX3_readItem_11 : decode cX3_readItem 11 = .ok (.aload_n 0, 1) := dq_42 dp_cX3_readItem rfl
theorem dX3_readItem_12 : decode cX3_readItem 12 = .ok (.getfield 11, 3) := dq_180 dp_cX3_readItem rfl
theorem dX3_readItem_15 : decode cX3_readItem 15 = .ok (.iload_n 1, 1) := dq_27 dp_cX3_readItem rfl
theorem dX3_readItem_16 : decode cX3_readItem 16 = .ok (.iload_n 2, 1) := dq_28 dp_cX3_readItem rfl
theorem dX3_readItem_17 : decode cX3_readItem 17 = .ok (.iastore, 1) := dq_79 dp_cX3_readItem rfl
theorem dX3_readItem_18 : decode cX3_readItem 18 = .ok (.iconst 0, 1) := dq_3 dp_cX3_readItem rfl
theorem dX3_readItem_19 : decode cX3_readItem 19 = .ok (.istore_n 3, 1) := dq_62 dp_cX3_readItem rfl
theorem dX3_readItem_20 : decode cX3_readItem 20 = .ok (.iload_n 3, 1) := dq_29 dp_cX3_readItem rfl
theorem dX3_readItem_21 : decode cX3_readItem 21 = .ok (.iload_n 2, 1) := dq_28 dp_cX3_readItem rfl
theorem dX3_readItem_22 : decode cX3_readItem 22 = .ok (.invokestatic 66, 3) := dq_184 dp_cX3_readItem rfl
theorem dX3_readItem_25 : decode cX3_readItem 25 = .ok (.if_icmp .ge 57, 3) := dq_162 (v := 57) dp_cX3_readItem rfl rfl
theorem dX3_readItem_28 : decode cX3_readItem 28 = .ok (.aload_n 0, 1) := dq_42 dp_cX3_readItem rfl
theorem dX3_readItem_29 : decode cX3_readItem 29 = .ok (.bipush 32, 2) := dq_16 (v := 32) dp_cX3_readItem rfl rfl
theorem dX3_readItem_31 : decode cX3_readItem 31 = .ok (.invokevirtual 45, 3) := dq_182 dp_cX3_readItem rfl
theorem dX3_readItem_34 : decode cX3_readItem 34 = .ok (.aload_n 0, 1) := dq_42 dp_cX3_readItem rfl
theorem dX3_readItem_35 : decode cX3_readItem 35 = .ok (.getfield 28, 3) := dq_180 dp_cX3_readItem rfl
theorem dX3_readItem_38 : decode cX3_readItem 38 = .ok (.iconst (-1), 1) := dq_2 dp_cX3_readItem rfl
theorem dX3_readItem_39 : decode cX3_readItem 39 = .ok (.if_icmp .ne 28, 3) := dq_160 (v := 28) dp_cX3_readItem rfl rfl
theorem dX3_readItem_42 : decode cX3_readItem 42 = .ok (.aload_n 0, 1) := dq_42 dp_cX3_readItem rfl
theorem dX3_readItem_43 : decode cX3_readItem 43 = .ok (.getfield 11, 3) := dq_180 dp_cX3_readItem rfl
theorem dX3_readItem_46 : decode cX3_readItem 46 = .ok (.iload_n 1, 1) := dq_27 dp_cX3_readItem rfl
theorem dX3_readItem_47 : decode cX3_readItem 47 = .ok (.iconst 1, 1) := dq_4 dp_cX3_readItem rfl
theorem dX3_readItem_48 : decode cX3_readItem 48 = .ok (.iadd, 1) := dq_96 dp_cX3_readItem rfl
theorem dX3_readItem_49 : decode cX3_readItem 49 = .ok (.iload_n 3, 1) := dq_29 dp_cX3_readItem rfl
theorem dX3_readItem_50 : decode cX3_readItem 50 = .ok (.iadd, 1) := dq_96 dp_cX3_readItem rfl
theorem dX3_readItem_51 : decode cX3_readItem 51 = .ok (.aload_n 0, 1) := dq_42 dp_cX3_readItem rfl
theorem dX3_readItem_52 : decode cX3_readItem 52 = .ok (.iload_n 2, 1) := dq_28 dp_cX3_readItem rfl
theorem dX3_readItem_53 : decode cX3_readItem 53 = .ok (.iload_n 3, 1) := dq_29 dp_cX3_readItem rfl
theorem dX3_readItem_54 : decode cX3_readItem 54 = .ok (.invokestatic 69, 3) := dq_184 dp_cX3_readItem rfl
theorem dX3_readItem_57 : decode cX3_readItem 57 = .ok (.aload_n 0, 1) := dq_42 dp_cX3_readItem rfl
theorem dX3_readItem_58 : decode cX3_readItem 58 = .ok (.iload_n 2, 1) := dq_28 dp_cX3_readItem rfl
theorem dX3_readItem_59 : decode cX3_readItem 59 = .ok (.iload_n 3, 1) := dq_29 dp_cX3_readItem rfl
theorem dX3_readItem_60 : decode cX3_readItem 60 = .ok (.invokevirtual 72, 3) := dq_182 dp_cX3_readItem rfl
theorem dX3_readItem_63 : decode cX3_readItem 63 = .ok (.invokevirtual 75, 3) := dq_182 dp_cX3_readItem rfl
theorem dX3_readItem_66 : decode cX3_readItem 66 = .ok (.iastore, 1) := dq_79 dp_cX3_readItem rfl
theorem dX3_readItem_67 : decode cX3_readItem 67 = .ok (.aload_n 0, 1) := dq_42 dp_cX3_readItem rfl
theorem dX3_readItem_68 : decode cX3_readItem 68 = .ok (.getfield 28, 3) := dq_180 dp_cX3_readItem rfl
theorem dX3_readItem_71 : decode cX3_readItem 71 = .ok (.iconst (-1), 1) := dq_2 dp_cX3_readItem rfl
theorem dX3_readItem_72 : decode cX3_readItem 72 = .ok (.if_icmp .eq 4, 3) := dq_159 (v := 4) dp_cX3_readItem rfl rfl
theorem dX3_readItem_75 : decode cX3_readItem 75 = .ok (.return_, 1) := dq_177 dp_cX3_readItem rfl
theorem dX3_readItem_76 : decode cX3_readItem 76 = .ok (.iinc 3 1, 3) := dq_132 (v := 1) dp_cX3_readItem rfl (by decide) rfl
theorem dX3_readItem_79 : decode cX3_readItem 79 = .ok (.goto (-59), 3) := dq_167 (v := 65477) dp_cX3_readItem rfl rfl
theorem dX3_readItem_82 : decode cX3_readItem 82 = .ok (.iload_n 2, 1) := dq_28 dp_cX3_readItem rfl
theorem dX3_readItem_83 : decode cX3_readItem 83 = .ok (.ifCond .ne 18, 3) := dq_154 (v := 18) dp_cX3_readItem rfl rfl
theorem dX3_readItem_86 : decode cX3_readItem 86 = .ok (.aload_n 0, 1) := dq_42 dp_cX3_readItem rfl
theorem dX3_readItem_87 : decode cX3_readItem 87 = .ok (.aload_n 0, 1) := dq_42 dp_cX3_readItem rfl
theorem dX3_readItem_88 : decode cX3_readItem 88 = .ok (.getfield 11, 3) := dq_180 dp_cX3_readItem rfl
theorem dX3_readItem_91 : decode cX3_readItem 91 = .ok (.iload_n 1, 1) := dq_27 dp_cX3_readItem rfl
theorem dX3_readItem_92 : decode cX3_readItem 92 = .ok (.iconst 1, 1) := dq_4 dp_cX3_readItem rfl
theorem dX3_readItem_93 : decode cX3_readItem 93 = .ok (.iadd, 1) := dq_96 dp_cX3_readItem rfl
theorem dX3_readItem_94 : decode cX3_readItem 94 = .ok (.iaload, 1) := dq_46 dp_cX3_readItem rfl
theorem dX3_readItem_95 : decode cX3_readItem 95 = .ok (.putfield 31, 3) := dq_181 dp_cX3_readItem rfl
theorem dX3_readItem_98 : decode cX3_readItem 98 = .ok (.goto 18, 3) := dq_167 (v := 18) dp_cX3_readItem rfl rfl
theorem dX3_readItem_101 : decode cX3_readItem 101 = .ok (.iload_n 2, 1) := dq_28 dp_cX3_readItem rfl
theorem dX3_readItem_102 : decode cX3_readItem 102 = .ok (.iconst 3, 1) := dq_6 dp_cX3_readItem rfl
theorem dX3_readItem_103 : decode cX3_readItem 103 = .ok (.if_icmp .ne 13, 3) := dq_160 (v := 13) dp_cX3_readItem rfl rfl
theorem dX3_readItem_106 : decode cX3_readItem 106 = .ok (.aload_n 0, 1) := dq_42 dp_cX3_readItem rfl
theorem dX3_readItem_107 : decode cX3_readItem 107 = .ok (.dup, 1) := dq_89 dp_cX3_readItem rfl
theorem dX3_readItem_108 : decode cX3_readItem 108 = .ok (.getfield 34, 3) := dq_180 dp_cX3_readItem rfl
theorem dX3_readItem_111 : decode cX3_readItem 111 = .ok (.iconst 1, 1) := dq_4 dp_cX3_readItem rfl
theorem dX3_readItem_112 : decode cX3_readItem 112 = .ok (.iadd, 1) := dq_96 dp_cX3_readItem rfl
theorem dX3_readItem_113 : decode cX3_readItem 113 = .ok (.putfield 34, 3) := dq_181 dp_cX3_readItem rfl
theorem dX3_readItem_116 : decode cX3_readItem 116 = .ok (.return_, 1) := dq_177 dp_cX3_readItem rfl
theorem dX3_stands_0 : decode cX3_stands 0 = .ok (.iload_n 1, 1) := dq_27 dp_cX3_stands rfl
theorem dX3_stands_1 : decode cX3_stands 1 = .ok (.ifCond .lt 25, 3) := dq_155 (v := 25) dp_cX3_stands rfl rfl
theorem dX3_stands_4 : decode cX3_stands 4 = .ok (.iload_n 1, 1) := dq_27 dp_cX3_stands rfl
theorem dX3_stands_5 : decode cX3_stands 5 = .ok (.aload_n 0, 1) := dq_42 dp_cX3_stands rfl
theorem dX3_stands_6 : decode cX3_stands 6 = .ok (.getfield 18, 3) := dq_180 dp_cX3_stands rfl
theorem dX3_stands_9 : decode cX3_stands 9 = .ok (.if_icmp .ge 17, 3) := dq_162 (v := 17) dp_cX3_stands rfl rfl
theorem dX3_stands_12 : decode cX3_stands 12 = .ok (.aload_n 0, 1) := dq_42 dp_cX3_stands rfl
theorem dX3_stands_13 : decode cX3_stands 13 = .ok (.getfield 15, 3) := dq_180 dp_cX3_stands rfl
theorem dX3_stands_16 : decode cX3_stands 16 = .ok (.iload_n 1, 1) := dq_27 dp_cX3_stands rfl
theorem dX3_stands_17 : decode cX3_stands 17 = .ok (.iaload, 1) := dq_46 dp_cX3_stands rfl
theorem dX3_stands_18 : decode cX3_stands 18 = .ok (.iload_n 2, 1) := dq_28 dp_cX3_stands rfl
theorem dX3_stands_19 : decode cX3_stands 19 = .ok (.if_icmp .ne 7, 3) := dq_160 (v := 7) dp_cX3_stands rfl rfl
theorem dX3_stands_22 : decode cX3_stands 22 = .ok (.iconst 1, 1) := dq_4 dp_cX3_stands rfl
theorem dX3_stands_23 : decode cX3_stands 23 = .ok (.goto 4, 3) := dq_167 (v := 4) dp_cX3_stands rfl rfl
theorem dX3_stands_26 : decode cX3_stands 26 = .ok (.iconst 0, 1) := dq_3 dp_cX3_stands rfl
theorem dX3_stands_27 : decode cX3_stands 27 = .ok (.ireturn, 1) := dq_172 dp_cX3_stands rfl
set_option maxRecDepth 20000 in
theorem gl_X3_expect_X30 : GoodIn wsX3_expect wsX30 := (dg_t (dg_t (dg_t (dg_t (dg_t (dg_t (dg_t (dg_t (dg_t (dg_t gw_wsX30))))))))))
theorem ggX3_expect_X3_stands : GoodIn wsX3_expect wsX3_stands := (dg_c 7 rfl rfl (dg_c 8 rfl rfl (dg_c 9 rfl rfl gl_X3_expect_X30)))
set_option maxRecDepth 20000 in
theorem gX3_expect_X3_stands : GoodIn wsX3_expect (wsV RX3 78 RX3 yX3_stands wsX3_stands) := goodIn_app (dg_c 3 rfl rfl (dg_c 4 rfl rfl (dg_c 5 rfl rfl (dg_c 6 rfl rfl dg_0)))) ggX3_expect_X3_stands
theorem dX3_expect_0 : decode cX3_expect 0 = .ok (.aload_n 0, 1) := dq_42 dp_cX3_expect rfl
theorem dX3_expect_1 : decode cX3_expect 1 = .ok (.aload_n 0, 1) := dq_42 dp_cX3_expect rfl
theorem dX3_expect_2 : decode cX3_expect 2 = .ok (.getfield 25, 3) := dq_180 dp_cX3_expect rfl
theorem dX3_expect_5 : decode cX3_expect 5 = .ok (.iload_n 1, 1) := dq_27 dp_cX3_expect rfl
theorem dX3_expect_6 : decode cX3_expect 6 = .ok (.invokevirtual 78, 3) := dq_182 dp_cX3_expect rfl
theorem dX3_expect_9 : decode cX3_expect 9 = .ok (.ifCond .eq 16, 3) := dq_153 (v := 16) dp_cX3_expect rfl rfl
theorem dX3_expect_12 : decode cX3_expect 12 = .ok (.aload_n 0, 1) := dq_42 dp_cX3_expect rfl
theorem dX3_expect_13 : decode cX3_expect 13 = .ok (.dup, 1) := dq_89 dp_cX3_expect rfl
theorem dX3_expect_14 : decode cX3_expect 14 = .ok (.getfield 25, 3) := dq_180 dp_cX3_expect rfl
theorem dX3_expect_17 : decode cX3_expect 17 = .ok (.iconst 1, 1) := dq_4 dp_cX3_expect rfl
theorem dX3_expect_18 : decode cX3_expect 18 = .ok (.iadd, 1) := dq_96 dp_cX3_expect rfl
theorem dX3_expect_19 : decode cX3_expect 19 = .ok (.putfield 25, 3) := dq_181 dp_cX3_expect rfl
theorem dX3_expect_22 : decode cX3_expect 22 = .ok (.goto 11, 3) := dq_167 (v := 11) dp_cX3_expect rfl rfl
theorem dX3_expect_25 : decode cX3_expect 25 = .ok (.aload_n 0, 1) := dq_42 dp_cX3_expect rfl
theorem dX3_expect_26 : decode cX3_expect 26 = .ok (.aload_n 0, 1) := dq_42 dp_cX3_expect rfl
theorem dX3_expect_27 : decode cX3_expect 27 = .ok (.getfield 25, 3) := dq_180 dp_cX3_expect rfl
theorem dX3_expect_30 : decode cX3_expect 30 = .ok (.putfield 28, 3) := dq_181 dp_cX3_expect rfl
theorem dX3_expect_33 : decode cX3_expect 33 = .ok (.return_, 1) := dq_177 dp_cX3_expect rfl
set_option maxRecDepth 20000 in
theorem ggX3_readWord_X3_wordAt : GoodIn wsX3_readWord wsX3_wordAt := (dg_c 10 rfl rfl dg_0)
set_option maxRecDepth 20000 in
theorem gX3_readWord_X3_wordAt : GoodIn wsX3_readWord (va_wsS RX3 82 yX3_wordAt wsX3_wordAt) := goodIn_app (dg_c 7 rfl rfl (dg_c 8 rfl rfl (dg_c 9 rfl rfl dg_0))) ggX3_readWord_X3_wordAt
set_option maxRecDepth 20000 in
theorem gl_X3_readWord_X30 : GoodIn wsX3_readWord wsX30 := (dg_t (dg_r gw_wsX30))
theorem ggX3_readWord_X3_lettersStanding : GoodIn wsX3_readWord wsX3_lettersStanding := (dg_c 14 rfl rfl (goodIn_app (goodIn_app (dg_c 5 rfl rfl (dg_c 15 rfl rfl (dg_c 16 rfl rfl (dg_c 17 rfl rfl (dg_c 18 rfl rfl (dg_c 19 rfl rfl (dg_c 20 rfl rfl (dg_c 21 rfl rfl (dg_c 22 rfl rfl (dg_c 23 rfl rfl (dg_c 24 rfl rfl (dg_c 25 rfl rfl (dg_c 26 rfl rfl (dg_c 27 rfl rfl (dg_c 28 rfl rfl (dg_c 29 rfl rfl (dg_c 30 rfl rfl (dg_c 31 rfl rfl (dg_c 32 rfl rfl (dg_c 33 rfl rfl (dg_c 34 rfl rfl (dg_c 35 rfl rfl (dg_c 36 rfl rfl (dg_c 37 rfl rfl dg_0)))))))))))))))))))))))) (goodIn_app (dg_c 38 rfl rfl (dg_c 39 rfl rfl (dg_c 40 rfl rfl (dg_c 41 rfl rfl (dg_c 42 rfl rfl (dg_c 43 rfl rfl (dg_c 44 rfl rfl (dg_c 45 rfl rfl (dg_c 46 rfl rfl (dg_c 47 rfl rfl (dg_c 48 rfl rfl (dg_c 49 rfl rfl (dg_c 50 rfl rfl (dg_c 51 rfl rfl (dg_c 52 rfl rfl (dg_c 53 rfl rfl (dg_c 54 rfl rfl (dg_c 55 rfl rfl (dg_c 56 rfl rfl (dg_c 57 rfl rfl (dg_c 58 rfl rfl (dg_c 59 rfl rfl (dg_c 60 rfl rfl (dg_c 61 rfl rfl dg_0)))))))))))))))))))))))) (dg_c 62 rfl rfl (dg_c 63 rfl rfl (dg_c 64 rfl rfl (dg_c 65 rfl rfl (dg_c 66 rfl rfl (dg_c 9 rfl rfl (dg_c 67 rfl rfl (dg_c 68 rfl rfl (dg_c 69 rfl rfl dg_0))))))))))) gl_X3_readWord_X30))
set_option maxRecDepth 20000 in
theorem gX3_readWord_X3_lettersStanding : GoodIn wsX3_readWord (wsV RX3 86 RX3 yX3_lettersStanding wsX3_lettersStanding) := goodIn_app (dg_c 11 rfl rfl (dg_c 12 rfl rfl (dg_c 13 rfl rfl (dg_c 9 rfl rfl dg_0)))) ggX3_readWord_X3_lettersStanding
set_option maxRecDepth 20000 in
theorem ggX3_readWord_J0_length_8abf5 : GoodIn wsX3_readWord wsJ0_length_8abf5 := (dg_c 19 rfl rfl (dg_c 20 rfl rfl (dg_c 21 rfl rfl (dg_c 22 rfl rfl (dg_c 23 rfl rfl (dg_c 18 rfl rfl (dg_c 24 rfl rfl (dg_c 25 rfl rfl (dg_c 26 rfl rfl dg_0)))))))))
set_option maxRecDepth 20000 in
theorem gX3_readWord_J0_length_8abf5 : GoodIn wsX3_readWord (wsV RX3 90 RJ0 yJ0_length_8abf5 wsJ0_length_8abf5) := goodIn_app (dg_c 15 rfl rfl (dg_c 16 rfl rfl (dg_c 17 rfl rfl (dg_c 18 rfl rfl dg_0)))) ggX3_readWord_J0_length_8abf5
set_option maxRecDepth 20000 in
theorem ggX3_readWord_X3_takeWord : GoodIn wsX3_readWord wsX3_takeWord := (dg_c 73 rfl rfl (dg_c 74 rfl rfl (dg_c 5 rfl rfl (dg_c 6 rfl rfl gl_X3_readWord_X30))))
set_option maxRecDepth 20000 in
theorem gX3_readWord_X3_takeWord : GoodIn wsX3_readWord (wsV RX3 95 RX3 yX3_takeWord wsX3_takeWord) := goodIn_app (dg_c 70 rfl rfl (dg_c 71 rfl rfl (dg_c 72 rfl rfl (dg_c 9 rfl rfl dg_0)))) ggX3_readWord_X3_takeWord
theorem dX3_readWord_0 : decode cX3_readWord 0 = .ok (.iconst 0, 1) := dq_3 dp_cX3_readWord rfl
theorem dX3_readWord_1 : decode cX3_readWord 1 = .ok (.istore_n 1, 1) := dq_60 dp_cX3_readWord rfl
theorem dX3_readWord_2 : decode cX3_readWord 2 = .ok (.iconst 0, 1) := dq_3 dp_cX3_readWord rfl
theorem dX3_readWord_3 : decode cX3_readWord 3 = .ok (.istore_n 2, 1) := dq_61 dp_cX3_readWord rfl
theorem dX3_readWord_4 : decode cX3_readWord 4 = .ok (.iload_n 2, 1) := dq_28 dp_cX3_readWord rfl
theorem dX3_readWord_5 : decode cX3_readWord 5 = .ok (.bipush 10, 2) := dq_16 (v := 10) dp_cX3_readWord rfl rfl
theorem dX3_readWord_7 : decode cX3_readWord 7 = .ok (.if_icmp .ge 45, 3) := dq_162 (v := 45) dp_cX3_readWord rfl rfl
theorem dX3_readWord_10 : decode cX3_readWord 10 = .ok (.iload_n 2, 1) := dq_28 dp_cX3_readWord rfl
theorem dX3_readWord_11 : decode cX3_readWord 11 = .ok (.invokestatic 82, 3) := dq_184 dp_cX3_readWord rfl
theorem dX3_readWord_14 : decode cX3_readWord 14 = .ok (.astore_n 3, 1) := dq_78 dp_cX3_readWord rfl
theorem dX3_readWord_15 : decode cX3_readWord 15 = .ok (.aload_n 0, 1) := dq_42 dp_cX3_readWord rfl
theorem dX3_readWord_16 : decode cX3_readWord 16 = .ok (.aload_n 3, 1) := dq_45 dp_cX3_readWord rfl
theorem dX3_readWord_17 : decode cX3_readWord 17 = .ok (.invokevirtual 86, 3) := dq_182 dp_cX3_readWord rfl
theorem dX3_readWord_20 : decode cX3_readWord 20 = .ok (.istore 4, 2) := dq_54 dp_cX3_readWord rfl
theorem dX3_readWord_22 : decode cX3_readWord 22 = .ok (.iload 4, 2) := dq_21 dp_cX3_readWord rfl
theorem dX3_readWord_24 : decode cX3_readWord 24 = .ok (.aload_n 3, 1) := dq_45 dp_cX3_readWord rfl
theorem dX3_readWord_25 : decode cX3_readWord 25 = .ok (.invokevirtual 90, 3) := dq_182 dp_cX3_readWord rfl
theorem dX3_readWord_28 : decode cX3_readWord 28 = .ok (.if_icmp .ne 11, 3) := dq_160 (v := 11) dp_cX3_readWord rfl rfl
theorem dX3_readWord_31 : decode cX3_readWord 31 = .ok (.aload_n 0, 1) := dq_42 dp_cX3_readWord rfl
theorem dX3_readWord_32 : decode cX3_readWord 32 = .ok (.iload_n 2, 1) := dq_28 dp_cX3_readWord rfl
theorem dX3_readWord_33 : decode cX3_readWord 33 = .ok (.iload 4, 2) := dq_21 dp_cX3_readWord rfl
theorem dX3_readWord_35 : decode cX3_readWord 35 = .ok (.invokevirtual 95, 3) := dq_182 dp_cX3_readWord rfl
theorem dX3_readWord_38 : decode cX3_readWord 38 = .ok (.ireturn, 1) := dq_172 dp_cX3_readWord rfl
theorem dX3_readWord_39 : decode cX3_readWord 39 = .ok (.iload_n 1, 1) := dq_27 dp_cX3_readWord rfl
theorem dX3_readWord_40 : decode cX3_readWord 40 = .ok (.iload 4, 2) := dq_21 dp_cX3_readWord rfl
theorem dX3_readWord_42 : decode cX3_readWord 42 = .ok (.invokestatic 98, 3) := dq_184 dp_cX3_readWord rfl
theorem dX3_readWord_45 : decode cX3_readWord 45 = .ok (.istore_n 1, 1) := dq_60 dp_cX3_readWord rfl
theorem dX3_readWord_46 : decode cX3_readWord 46 = .ok (.iinc 2 1, 3) := dq_132 (v := 1) dp_cX3_readWord rfl (by decide) rfl
theorem dX3_readWord_49 : decode cX3_readWord 49 = .ok (.goto (-45), 3) := dq_167 (v := 65491) dp_cX3_readWord rfl rfl
theorem dX3_readWord_52 : decode cX3_readWord 52 = .ok (.aload_n 0, 1) := dq_42 dp_cX3_readWord rfl
theorem dX3_readWord_53 : decode cX3_readWord 53 = .ok (.aload_n 0, 1) := dq_42 dp_cX3_readWord rfl
theorem dX3_readWord_54 : decode cX3_readWord 54 = .ok (.getfield 25, 3) := dq_180 dp_cX3_readWord rfl
theorem dX3_readWord_57 : decode cX3_readWord 57 = .ok (.iload_n 1, 1) := dq_27 dp_cX3_readWord rfl
theorem dX3_readWord_58 : decode cX3_readWord 58 = .ok (.iadd, 1) := dq_96 dp_cX3_readWord rfl
theorem dX3_readWord_59 : decode cX3_readWord 59 = .ok (.putfield 28, 3) := dq_181 dp_cX3_readWord rfl
theorem dX3_readWord_62 : decode cX3_readWord 62 = .ok (.iconst (-1), 1) := dq_2 dp_cX3_readWord rfl
theorem dX3_readWord_63 : decode cX3_readWord 63 = .ok (.ireturn, 1) := dq_172 dp_cX3_readWord rfl
theorem dX3_takeWord_0 : decode cX3_takeWord 0 = .ok (.iload_n 1, 1) := dq_27 dp_cX3_takeWord rfl
theorem dX3_takeWord_1 : decode cX3_takeWord 1 = .ok (.iconst 3, 1) := dq_6 dp_cX3_takeWord rfl
theorem dX3_takeWord_2 : decode cX3_takeWord 2 = .ok (.if_icmp .ne 22, 3) := dq_160 (v := 22) dp_cX3_takeWord rfl rfl
theorem dX3_takeWord_5 : decode cX3_takeWord 5 = .ok (.aload_n 0, 1) := dq_42 dp_cX3_takeWord rfl
theorem dX3_takeWord_6 : decode cX3_takeWord 6 = .ok (.getfield 34, 3) := dq_180 dp_cX3_takeWord rfl
theorem dX3_takeWord_9 : decode cX3_takeWord 9 = .ok (.bipush 8, 2) := dq_16 (v := 8) dp_cX3_takeWord rfl rfl
theorem dX3_takeWord_11 : decode cX3_takeWord 11 = .ok (.if_icmp .lt 13, 3) := dq_161 (v := 13) dp_cX3_takeWord rfl rfl
theorem dX3_takeWord_14 : decode cX3_takeWord 14 = .ok (.aload_n 0, 1) := dq_42 dp_cX3_takeWord rfl
theorem dX3_takeWord_15 : decode cX3_takeWord 15 = .ok (.aload_n 0, 1) := dq_42 dp_cX3_takeWord rfl
theorem dX3_takeWord_16 : decode cX3_takeWord 16 = .ok (.getfield 25, 3) := dq_180 dp_cX3_takeWord rfl
theorem dX3_takeWord_19 : decode cX3_takeWord 19 = .ok (.putfield 28, 3) := dq_181 dp_cX3_takeWord rfl
theorem dX3_takeWord_22 : decode cX3_takeWord 22 = .ok (.iconst (-1), 1) := dq_2 dp_cX3_takeWord rfl
theorem dX3_takeWord_23 : decode cX3_takeWord 23 = .ok (.ireturn, 1) := dq_172 dp_cX3_takeWord rfl
theorem dX3_takeWord_24 : decode cX3_takeWord 24 = .ok (.aload_n 0, 1) := dq_42 dp_cX3_takeWord rfl
theorem dX3_takeWord_25 : decode cX3_takeWord 25 = .ok (.dup, 1) := dq_89 dp_cX3_takeWord rfl
theorem dX3_takeWord_26 : decode cX3_takeWord 26 = .ok (.getfield 25, 3) := dq_180 dp_cX3_takeWord rfl
theorem dX3_takeWord_29 : decode cX3_takeWord 29 = .ok (.iload_n 2, 1) := dq_28 dp_cX3_takeWord rfl
theorem dX3_takeWord_30 : decode cX3_takeWord 30 = .ok (.iadd, 1) := dq_96 dp_cX3_takeWord rfl
theorem dX3_takeWord_31 : decode cX3_takeWord 31 = .ok (.putfield 25, 3) := dq_181 dp_cX3_takeWord rfl
theorem dX3_takeWord_34 : decode cX3_takeWord 34 = .ok (.iload_n 1, 1) := dq_27 dp_cX3_takeWord rfl
theorem dX3_takeWord_35 : decode cX3_takeWord 35 = .ok (.ireturn, 1) := dq_172 dp_cX3_takeWord rfl
set_option maxRecDepth 20000 in
theorem ggX3_lettersStanding_J0_length_8abf5 : GoodIn wsX3_lettersStanding wsJ0_length_8abf5 := (dg_c 6 rfl rfl (dg_c 7 rfl rfl (dg_c 8 rfl rfl (dg_c 9 rfl rfl (dg_c 10 rfl rfl (dg_c 5 rfl rfl (dg_c 11 rfl rfl (dg_c 12 rfl rfl (dg_c 13 rfl rfl dg_0)))))))))
set_option maxRecDepth 20000 in
theorem gX3_lettersStanding_J0_length_8abf5 : GoodIn wsX3_lettersStanding (wsV RX3 90 RJ0 yJ0_length_8abf5 wsJ0_length_8abf5) := goodIn_app (dg_c 2 rfl rfl (dg_c 3 rfl rfl (dg_c 4 rfl rfl (dg_c 5 rfl rfl dg_0)))) ggX3_lettersStanding_J0_length_8abf5
set_option maxRecDepth 20000 in
theorem ggX3_lettersStanding_J0_charAt_5068e : GoodIn wsX3_lettersStanding wsJ0_charAt_5068e := (dg_c 17 rfl rfl (goodIn_app (dg_c 7 rfl rfl (dg_c 18 rfl rfl (dg_c 19 rfl rfl (dg_c 20 rfl rfl (dg_c 5 rfl rfl (dg_c 21 rfl rfl (dg_c 12 rfl rfl (dg_c 13 rfl rfl (dg_c 22 rfl rfl (dg_c 23 rfl rfl (dg_c 24 rfl rfl (dg_c 25 rfl rfl (dg_c 26 rfl rfl (dg_c 27 rfl rfl (dg_c 28 rfl rfl (dg_c 29 rfl rfl (dg_c 30 rfl rfl (dg_c 31 rfl rfl (dg_c 32 rfl rfl (dg_c 33 rfl rfl (dg_c 34 rfl rfl (dg_c 35 rfl rfl (dg_c 36 rfl rfl (dg_c 37 rfl rfl dg_0)))))))))))))))))))))))) (dg_c 38 rfl rfl (dg_c 39 rfl rfl (dg_c 40 rfl rfl (dg_c 41 rfl rfl (dg_c 42 rfl rfl (dg_c 43 rfl rfl (dg_c 44 rfl rfl (dg_c 45 rfl rfl (dg_c 46 rfl rfl (dg_c 47 rfl rfl (dg_c 48 rfl rfl (dg_c 49 rfl rfl (dg_c 50 rfl rfl dg_0)))))))))))))))
set_option maxRecDepth 20000 in
theorem gX3_lettersStanding_J0_charAt_5068e : GoodIn wsX3_lettersStanding (wsV RX3 101 RJ0 yJ0_charAt_5068e wsJ0_charAt_5068e) := goodIn_app (dg_c 14 rfl rfl (dg_c 15 rfl rfl (dg_c 16 rfl rfl (dg_c 5 rfl rfl dg_0)))) ggX3_lettersStanding_J0_charAt_5068e
set_option maxRecDepth 20000 in
theorem gl_X3_lettersStanding_X30 : GoodIn wsX3_lettersStanding wsX30 := (dg_t (dg_r gw_wsX30))
theorem ggX3_lettersStanding_X3_stands : GoodIn wsX3_lettersStanding wsX3_stands := (dg_c 55 rfl rfl (dg_c 56 rfl rfl (dg_c 57 rfl rfl gl_X3_lettersStanding_X30)))
set_option maxRecDepth 20000 in
theorem gX3_lettersStanding_X3_stands : GoodIn wsX3_lettersStanding (wsV RX3 78 RX3 yX3_stands wsX3_stands) := goodIn_app (dg_c 51 rfl rfl (dg_c 52 rfl rfl (dg_c 53 rfl rfl (dg_c 54 rfl rfl dg_0)))) ggX3_lettersStanding_X3_stands
theorem dX3_lettersStanding_0 : decode cX3_lettersStanding 0 = .ok (.iconst 0, 1) := dq_3 dp_cX3_lettersStanding rfl
theorem dX3_lettersStanding_1 : decode cX3_lettersStanding 1 = .ok (.istore_n 2, 1) := dq_61 dp_cX3_lettersStanding rfl
theorem dX3_lettersStanding_2 : decode cX3_lettersStanding 2 = .ok (.iload_n 2, 1) := dq_28 dp_cX3_lettersStanding rfl
theorem dX3_lettersStanding_3 : decode cX3_lettersStanding 3 = .ok (.aload_n 1, 1) := dq_43 dp_cX3_lettersStanding rfl
theorem dX3_lettersStanding_4 : decode cX3_lettersStanding 4 = .ok (.invokevirtual 90, 3) := dq_182 dp_cX3_lettersStanding rfl
theorem dX3_lettersStanding_7 : decode cX3_lettersStanding 7 = .ok (.if_icmp .ge 27, 3) := dq_162 (v := 27) dp_cX3_lettersStanding rfl rfl
theorem dX3_lettersStanding_10 : decode cX3_lettersStanding 10 = .ok (.aload_n 0, 1) := dq_42 dp_cX3_lettersStanding rfl
theorem dX3_lettersStanding_11 : decode cX3_lettersStanding 11 = .ok (.aload_n 0, 1) := dq_42 dp_cX3_lettersStanding rfl
theorem dX3_lettersStanding_12 : decode cX3_lettersStanding 12 = .ok (.getfield 25, 3) := dq_180 dp_cX3_lettersStanding rfl
theorem dX3_lettersStanding_15 : decode cX3_lettersStanding 15 = .ok (.iload_n 2, 1) := dq_28 dp_cX3_lettersStanding rfl
theorem dX3_lettersStanding_16 : decode cX3_lettersStanding 16 = .ok (.iadd, 1) := dq_96 dp_cX3_lettersStanding rfl
theorem dX3_lettersStanding_17 : decode cX3_lettersStanding 17 = .ok (.aload_n 1, 1) := dq_43 dp_cX3_lettersStanding rfl
theorem dX3_lettersStanding_18 : decode cX3_lettersStanding 18 = .ok (.iload_n 2, 1) := dq_28 dp_cX3_lettersStanding rfl
theorem dX3_lettersStanding_19 : decode cX3_lettersStanding 19 = .ok (.invokevirtual 101, 3) := dq_182 dp_cX3_lettersStanding rfl
theorem dX3_lettersStanding_22 : decode cX3_lettersStanding 22 = .ok (.invokevirtual 78, 3) := dq_182 dp_cX3_lettersStanding rfl
theorem dX3_lettersStanding_25 : decode cX3_lettersStanding 25 = .ok (.ifCond .eq 9, 3) := dq_153 (v := 9) dp_cX3_lettersStanding rfl rfl
theorem dX3_lettersStanding_28 : decode cX3_lettersStanding 28 = .ok (.iinc 2 1, 3) := dq_132 (v := 1) dp_cX3_lettersStanding rfl (by decide) rfl
theorem dX3_lettersStanding_31 : decode cX3_lettersStanding 31 = .ok (.goto (-29), 3) := dq_167 (v := 65507) dp_cX3_lettersStanding rfl rfl
theorem dX3_lettersStanding_34 : decode cX3_lettersStanding 34 = .ok (.iload_n 2, 1) := dq_28 dp_cX3_lettersStanding rfl
theorem dX3_lettersStanding_35 : decode cX3_lettersStanding 35 = .ok (.ireturn, 1) := dq_172 dp_cX3_lettersStanding rfl
set_option maxRecDepth 20000 in
theorem ggX3_readNumber_X3_isDigit : GoodIn wsX3_readNumber wsX3_isDigit := (dg_c 8 rfl rfl dg_0)
set_option maxRecDepth 20000 in
theorem gX3_readNumber_X3_isDigit : GoodIn wsX3_readNumber (va_wsS RX3 105 yX3_isDigit wsX3_isDigit) := goodIn_app (dg_c 5 rfl rfl (dg_c 6 rfl rfl (dg_c 7 rfl rfl dg_0))) ggX3_readNumber_X3_isDigit
set_option maxRecDepth 20000 in
theorem ggX3_readNumber_X7_within : GoodIn wsX3_readNumber wsX7_within := (dg_c 11 rfl rfl dg_0)
set_option maxRecDepth 20000 in
theorem gX3_readNumber_X7_within_n109 : GoodIn wsX3_readNumber (wsX7_within) := ggX3_readNumber_X7_within
theorem dX3_readNumber_0 : decode cX3_readNumber 0 = .ok (.aload_n 0, 1) := dq_42 dp_cX3_readNumber rfl
theorem dX3_readNumber_1 : decode cX3_readNumber 1 = .ok (.getfield 25, 3) := dq_180 dp_cX3_readNumber rfl
theorem dX3_readNumber_4 : decode cX3_readNumber 4 = .ok (.istore_n 3, 1) := dq_62 dp_cX3_readNumber rfl
theorem dX3_readNumber_5 : decode cX3_readNumber 5 = .ok (.iconst 0, 1) := dq_3 dp_cX3_readNumber rfl
theorem dX3_readNumber_6 : decode cX3_readNumber 6 = .ok (.istore 4, 2) := dq_54 dp_cX3_readNumber rfl
theorem dX3_readNumber_8 : decode cX3_readNumber 8 = .ok (.aload_n 0, 1) := dq_42 dp_cX3_readNumber rfl
theorem dX3_readNumber_9 : decode cX3_readNumber 9 = .ok (.getfield 25, 3) := dq_180 dp_cX3_readNumber rfl
theorem dX3_readNumber_12 : decode cX3_readNumber 12 = .ok (.aload_n 0, 1) := dq_42 dp_cX3_readNumber rfl
theorem dX3_readNumber_13 : decode cX3_readNumber 13 = .ok (.getfield 18, 3) := dq_180 dp_cX3_readNumber rfl
theorem dX3_readNumber_16 : decode cX3_readNumber 16 = .ok (.if_icmp .ge 61, 3) := dq_162 (v := 61) dp_cX3_readNumber rfl rfl
theorem dX3_readNumber_19 : decode cX3_readNumber 19 = .ok (.aload_n 0, 1) := dq_42 dp_cX3_readNumber rfl
theorem dX3_readNumber_20 : decode cX3_readNumber 20 = .ok (.getfield 25, 3) := dq_180 dp_cX3_readNumber rfl
theorem dX3_readNumber_23 : decode cX3_readNumber 23 = .ok (.iload_n 3, 1) := dq_29 dp_cX3_readNumber rfl
theorem dX3_readNumber_24 : decode cX3_readNumber 24 = .ok (.iconst 3, 1) := dq_6 dp_cX3_readNumber rfl
theorem dX3_readNumber_25 : decode cX3_readNumber 25 = .ok (.iadd, 1) := dq_96 dp_cX3_readNumber rfl
theorem dX3_readNumber_26 : decode cX3_readNumber 26 = .ok (.if_icmp .ge 51, 3) := dq_162 (v := 51) dp_cX3_readNumber rfl rfl
theorem dX3_readNumber_29 : decode cX3_readNumber 29 = .ok (.aload_n 0, 1) := dq_42 dp_cX3_readNumber rfl
theorem dX3_readNumber_30 : decode cX3_readNumber 30 = .ok (.getfield 15, 3) := dq_180 dp_cX3_readNumber rfl
theorem dX3_readNumber_33 : decode cX3_readNumber 33 = .ok (.aload_n 0, 1) := dq_42 dp_cX3_readNumber rfl
theorem dX3_readNumber_34 : decode cX3_readNumber 34 = .ok (.getfield 25, 3) := dq_180 dp_cX3_readNumber rfl
theorem dX3_readNumber_37 : decode cX3_readNumber 37 = .ok (.iaload, 1) := dq_46 dp_cX3_readNumber rfl
theorem dX3_readNumber_38 : decode cX3_readNumber 38 = .ok (.invokestatic 105, 3) := dq_184 dp_cX3_readNumber rfl
theorem dX3_readNumber_41 : decode cX3_readNumber 41 = .ok (.ifCond .eq 36, 3) := dq_153 (v := 36) dp_cX3_readNumber rfl rfl
theorem dX3_readNumber_44 : decode cX3_readNumber 44 = .ok (.iload 4, 2) := dq_21 dp_cX3_readNumber rfl
theorem dX3_readNumber_46 : decode cX3_readNumber 46 = .ok (.bipush 10, 2) := dq_16 (v := 10) dp_cX3_readNumber rfl rfl
theorem dX3_readNumber_48 : decode cX3_readNumber 48 = .ok (.imul, 1) := dq_104 dp_cX3_readNumber rfl
theorem dX3_readNumber_49 : decode cX3_readNumber 49 = .ok (.aload_n 0, 1) := dq_42 dp_cX3_readNumber rfl
theorem dX3_readNumber_50 : decode cX3_readNumber 50 = .ok (.getfield 15, 3) := dq_180 dp_cX3_readNumber rfl
theorem dX3_readNumber_53 : decode cX3_readNumber 53 = .ok (.aload_n 0, 1) := dq_42 dp_cX3_readNumber rfl
theorem dX3_readNumber_54 : decode cX3_readNumber 54 = .ok (.getfield 25, 3) := dq_180 dp_cX3_readNumber rfl
theorem dX3_readNumber_57 : decode cX3_readNumber 57 = .ok (.iaload, 1) := dq_46 dp_cX3_readNumber rfl
theorem dX3_readNumber_58 : decode cX3_readNumber 58 = .ok (.iadd, 1) := dq_96 dp_cX3_readNumber rfl
theorem dX3_readNumber_59 : decode cX3_readNumber 59 = .ok (.bipush 48, 2) := dq_16 (v := 48) dp_cX3_readNumber rfl rfl
theorem dX3_readNumber_61 : decode cX3_readNumber 61 = .ok (.isub, 1) := dq_100 dp_cX3_readNumber rfl
theorem dX3_readNumber_62 : decode cX3_readNumber 62 = .ok (.istore 4, 2) := dq_54 dp_cX3_readNumber rfl
theorem dX3_readNumber_64 : decode cX3_readNumber 64 = .ok (.aload_n 0, 1) := dq_42 dp_cX3_readNumber rfl
theorem dX3_readNumber_65 : decode cX3_readNumber 65 = .ok (.dup, 1) := dq_89 dp_cX3_readNumber rfl
theorem dX3_readNumber_66 : decode cX3_readNumber 66 = .ok (.getfield 25, 3) := dq_180 dp_cX3_readNumber rfl
theorem dX3_readNumber_69 : decode cX3_readNumber 69 = .ok (.iconst 1, 1) := dq_4 dp_cX3_readNumber rfl
theorem dX3_readNumber_70 : decode cX3_readNumber 70 = .ok (.iadd, 1) := dq_96 dp_cX3_readNumber rfl
theorem dX3_readNumber_71 : decode cX3_readNumber 71 = .ok (.putfield 25, 3) := dq_181 dp_cX3_readNumber rfl
theorem dX3_readNumber_74 : decode cX3_readNumber 74 = .ok (.goto (-66), 3) := dq_167 (v := 65470) dp_cX3_readNumber rfl rfl
theorem dX3_readNumber_77 : decode cX3_readNumber 77 = .ok (.aload_n 0, 1) := dq_42 dp_cX3_readNumber rfl
theorem dX3_readNumber_78 : decode cX3_readNumber 78 = .ok (.getfield 25, 3) := dq_180 dp_cX3_readNumber rfl
theorem dX3_readNumber_81 : decode cX3_readNumber 81 = .ok (.iload_n 3, 1) := dq_29 dp_cX3_readNumber rfl
theorem dX3_readNumber_82 : decode cX3_readNumber 82 = .ok (.if_icmp .eq 13, 3) := dq_159 (v := 13) dp_cX3_readNumber rfl rfl
theorem dX3_readNumber_85 : decode cX3_readNumber 85 = .ok (.iload 4, 2) := dq_21 dp_cX3_readNumber rfl
theorem dX3_readNumber_87 : decode cX3_readNumber 87 = .ok (.iload_n 1, 1) := dq_27 dp_cX3_readNumber rfl
theorem dX3_readNumber_88 : decode cX3_readNumber 88 = .ok (.iload_n 2, 1) := dq_28 dp_cX3_readNumber rfl
theorem dX3_readNumber_89 : decode cX3_readNumber 89 = .ok (.invokestatic 109, 3) := dq_184 dp_cX3_readNumber rfl
theorem dX3_readNumber_92 : decode cX3_readNumber 92 = .ok (.ifCond .ne 8, 3) := dq_154 (v := 8) dp_cX3_readNumber rfl rfl
theorem dX3_readNumber_95 : decode cX3_readNumber 95 = .ok (.aload_n 0, 1) := dq_42 dp_cX3_readNumber rfl
theorem dX3_readNumber_96 : decode cX3_readNumber 96 = .ok (.iload_n 3, 1) := dq_29 dp_cX3_readNumber rfl
theorem dX3_readNumber_97 : decode cX3_readNumber 97 = .ok (.putfield 28, 3) := dq_181 dp_cX3_readNumber rfl
theorem dX3_readNumber_100 : decode cX3_readNumber 100 = .ok (.iload 4, 2) := dq_21 dp_cX3_readNumber rfl
theorem dX3_readNumber_102 : decode cX3_readNumber 102 = .ok (.ireturn, 1) := dq_172 dp_cX3_readNumber rfl
theorem dX3_isDigit_0 : decode cX3_isDigit 0 = .ok (.iload_n 0, 1) := dq_26 dp_cX3_isDigit rfl
theorem dX3_isDigit_1 : decode cX3_isDigit 1 = .ok (.bipush 48, 2) := dq_16 (v := 48) dp_cX3_isDigit rfl rfl
theorem dX3_isDigit_3 : decode cX3_isDigit 3 = .ok (.if_icmp .lt 13, 3) := dq_161 (v := 13) dp_cX3_isDigit rfl rfl
theorem dX3_isDigit_6 : decode cX3_isDigit 6 = .ok (.iload_n 0, 1) := dq_26 dp_cX3_isDigit rfl
theorem dX3_isDigit_7 : decode cX3_isDigit 7 = .ok (.bipush 57, 2) := dq_16 (v := 57) dp_cX3_isDigit rfl rfl
theorem dX3_isDigit_9 : decode cX3_isDigit 9 = .ok (.if_icmp .gt 7, 3) := dq_163 (v := 7) dp_cX3_isDigit rfl rfl
theorem dX3_isDigit_12 : decode cX3_isDigit 12 = .ok (.iconst 1, 1) := dq_4 dp_cX3_isDigit rfl
theorem dX3_isDigit_13 : decode cX3_isDigit 13 = .ok (.goto 4, 3) := dq_167 (v := 4) dp_cX3_isDigit rfl rfl
theorem dX3_isDigit_16 : decode cX3_isDigit 16 = .ok (.iconst 0, 1) := dq_3 dp_cX3_isDigit rfl
theorem dX3_isDigit_17 : decode cX3_isDigit 17 = .ok (.ireturn, 1) := dq_172 dp_cX3_isDigit rfl
theorem dX3_wordAt_0 : decode cX3_wordAt 0 = .ok (.iload_n 0, 1) := dq_26 dp_cX3_wordAt rfl
theorem dX3_wordAt_1 : decode cX3_wordAt 1 = .ok (.tableswitch 78 0 8 #[51, 54, 57, 60, 63, 66, 69, 72, 75], 51) := by decide +kernel
theorem dX3_wordAt_52 : decode cX3_wordAt 52 = .ok (.ldc 113, 2) := dq_18 dp_cX3_wordAt rfl
theorem dX3_wordAt_54 : decode cX3_wordAt 54 = .ok (.areturn, 1) := dq_176 dp_cX3_wordAt rfl
theorem dX3_wordAt_55 : decode cX3_wordAt 55 = .ok (.ldc 114, 2) := dq_18 dp_cX3_wordAt rfl
theorem dX3_wordAt_57 : decode cX3_wordAt 57 = .ok (.areturn, 1) := dq_176 dp_cX3_wordAt rfl
theorem dX3_wordAt_58 : decode cX3_wordAt 58 = .ok (.ldc 116, 2) := dq_18 dp_cX3_wordAt rfl
theorem dX3_wordAt_60 : decode cX3_wordAt 60 = .ok (.areturn, 1) := dq_176 dp_cX3_wordAt rfl
theorem dX3_wordAt_61 : decode cX3_wordAt 61 = .ok (.ldc 118, 2) := dq_18 dp_cX3_wordAt rfl
theorem dX3_wordAt_63 : decode cX3_wordAt 63 = .ok (.areturn, 1) := dq_176 dp_cX3_wordAt rfl
theorem dX3_wordAt_64 : decode cX3_wordAt 64 = .ok (.ldc 120, 2) := dq_18 dp_cX3_wordAt rfl
theorem dX3_wordAt_66 : decode cX3_wordAt 66 = .ok (.areturn, 1) := dq_176 dp_cX3_wordAt rfl
theorem dX3_wordAt_67 : decode cX3_wordAt 67 = .ok (.ldc 122, 2) := dq_18 dp_cX3_wordAt rfl
theorem dX3_wordAt_69 : decode cX3_wordAt 69 = .ok (.areturn, 1) := dq_176 dp_cX3_wordAt rfl
theorem dX3_wordAt_70 : decode cX3_wordAt 70 = .ok (.ldc 124, 2) := dq_18 dp_cX3_wordAt rfl
theorem dX3_wordAt_72 : decode cX3_wordAt 72 = .ok (.areturn, 1) := dq_176 dp_cX3_wordAt rfl
theorem dX3_wordAt_73 : decode cX3_wordAt 73 = .ok (.ldc 126, 2) := dq_18 dp_cX3_wordAt rfl
theorem dX3_wordAt_75 : decode cX3_wordAt 75 = .ok (.areturn, 1) := dq_176 dp_cX3_wordAt rfl
theorem dX3_wordAt_76 : decode cX3_wordAt 76 = .ok (.ldc 128, 2) := dq_18 dp_cX3_wordAt rfl
theorem dX3_wordAt_78 : decode cX3_wordAt 78 = .ok (.areturn, 1) := dq_176 dp_cX3_wordAt rfl
theorem dX3_wordAt_79 : decode cX3_wordAt 79 = .ok (.ldc 130, 2) := dq_18 dp_cX3_wordAt rfl
theorem dX3_wordAt_81 : decode cX3_wordAt 81 = .ok (.areturn, 1) := dq_176 dp_cX3_wordAt rfl
theorem dX3_numbersOf_0 : decode cX3_numbersOf 0 = .ok (.iload_n 0, 1) := dq_26 dp_cX3_numbersOf rfl
theorem dX3_numbersOf_1 : decode cX3_numbersOf 1 = .ok (.lookupswitch 39 #[(2, 37), (3, 35), (8, 37)], 35) := by decide +kernel
theorem dX3_numbersOf_36 : decode cX3_numbersOf 36 = .ok (.iconst 3, 1) := dq_6 dp_cX3_numbersOf rfl
theorem dX3_numbersOf_37 : decode cX3_numbersOf 37 = .ok (.ireturn, 1) := dq_172 dp_cX3_numbersOf rfl
theorem dX3_numbersOf_38 : decode cX3_numbersOf 38 = .ok (.iconst 2, 1) := dq_5 dp_cX3_numbersOf rfl
theorem dX3_numbersOf_39 : decode cX3_numbersOf 39 = .ok (.ireturn, 1) := dq_172 dp_cX3_numbersOf rfl
theorem dX3_numbersOf_40 : decode cX3_numbersOf 40 = .ok (.iconst 1, 1) := dq_4 dp_cX3_numbersOf rfl
theorem dX3_numbersOf_41 : decode cX3_numbersOf 41 = .ok (.ireturn, 1) := dq_172 dp_cX3_numbersOf rfl
theorem dX3_leastOf_0 : decode cX3_leastOf 0 = .ok (.iload_n 0, 1) := dq_26 dp_cX3_leastOf rfl
theorem dX3_leastOf_1 : decode cX3_leastOf 1 = .ok (.ifCond .ne 5, 3) := dq_154 (v := 5) dp_cX3_leastOf rfl rfl
theorem dX3_leastOf_4 : decode cX3_leastOf 4 = .ok (.iconst 4, 1) := dq_7 dp_cX3_leastOf rfl
theorem dX3_leastOf_5 : decode cX3_leastOf 5 = .ok (.ireturn, 1) := dq_172 dp_cX3_leastOf rfl
theorem dX3_leastOf_6 : decode cX3_leastOf 6 = .ok (.iload_n 0, 1) := dq_26 dp_cX3_leastOf rfl
theorem dX3_leastOf_7 : decode cX3_leastOf 7 = .ok (.bipush 7, 2) := dq_16 (v := 7) dp_cX3_leastOf rfl rfl
theorem dX3_leastOf_9 : decode cX3_leastOf 9 = .ok (.if_icmp .eq 13, 3) := dq_159 (v := 13) dp_cX3_leastOf rfl rfl
theorem dX3_leastOf_12 : decode cX3_leastOf 12 = .ok (.iload_n 0, 1) := dq_26 dp_cX3_leastOf rfl
theorem dX3_leastOf_13 : decode cX3_leastOf 13 = .ok (.iconst 3, 1) := dq_6 dp_cX3_leastOf rfl
theorem dX3_leastOf_14 : decode cX3_leastOf 14 = .ok (.if_icmp .ne 12, 3) := dq_160 (v := 12) dp_cX3_leastOf rfl rfl
theorem dX3_leastOf_17 : decode cX3_leastOf 17 = .ok (.iload_n 1, 1) := dq_27 dp_cX3_leastOf rfl
theorem dX3_leastOf_18 : decode cX3_leastOf 18 = .ok (.iconst 2, 1) := dq_5 dp_cX3_leastOf rfl
theorem dX3_leastOf_19 : decode cX3_leastOf 19 = .ok (.if_icmp .ne 7, 3) := dq_160 (v := 7) dp_cX3_leastOf rfl rfl
theorem dX3_leastOf_22 : decode cX3_leastOf 22 = .ok (.iconst 1, 1) := dq_4 dp_cX3_leastOf rfl
theorem dX3_leastOf_23 : decode cX3_leastOf 23 = .ok (.goto 4, 3) := dq_167 (v := 4) dp_cX3_leastOf rfl rfl
theorem dX3_leastOf_26 : decode cX3_leastOf 26 = .ok (.iconst 0, 1) := dq_3 dp_cX3_leastOf rfl
theorem dX3_leastOf_27 : decode cX3_leastOf 27 = .ok (.ireturn, 1) := dq_172 dp_cX3_leastOf rfl
theorem dX3_mostOf_0 : decode cX3_mostOf 0 = .ok (.iload_n 1, 1) := dq_27 dp_cX3_mostOf rfl
theorem dX3_mostOf_1 : decode cX3_mostOf 1 = .ok (.tableswitch 123 0 8 #[51, 54, 61, 77, 99, 102, 106, 109, 112], 51) := by decide +kernel
theorem dX3_mostOf_52 : decode cX3_mostOf 52 = .ok (.bipush 40, 2) := dq_16 (v := 40) dp_cX3_mostOf rfl rfl
theorem dX3_mostOf_54 : decode cX3_mostOf 54 = .ok (.ireturn, 1) := dq_172 dp_cX3_mostOf rfl
theorem dX3_mostOf_55 : decode cX3_mostOf 55 = .ok (.aload_n 0, 1) := dq_42 dp_cX3_mostOf rfl
theorem dX3_mostOf_56 : decode cX3_mostOf 56 = .ok (.getfield 31, 3) := dq_180 dp_cX3_mostOf rfl
theorem dX3_mostOf_59 : decode cX3_mostOf 59 = .ok (.iconst 1, 1) := dq_4 dp_cX3_mostOf rfl
theorem dX3_mostOf_60 : decode cX3_mostOf 60 = .ok (.isub, 1) := dq_100 dp_cX3_mostOf rfl
theorem dX3_mostOf_61 : decode cX3_mostOf 61 = .ok (.ireturn, 1) := dq_172 dp_cX3_mostOf rfl
theorem dX3_mostOf_62 : decode cX3_mostOf 62 = .ok (.iload_n 2, 1) := dq_28 dp_cX3_mostOf rfl
theorem dX3_mostOf_63 : decode cX3_mostOf 63 = .ok (.ifCond .ne 12, 3) := dq_154 (v := 12) dp_cX3_mostOf rfl rfl
theorem dX3_mostOf_66 : decode cX3_mostOf 66 = .ok (.aload_n 0, 1) := dq_42 dp_cX3_mostOf rfl
theorem dX3_mostOf_67 : decode cX3_mostOf 67 = .ok (.getfield 31, 3) := dq_180 dp_cX3_mostOf rfl
theorem dX3_mostOf_70 : decode cX3_mostOf 70 = .ok (.iconst 1, 1) := dq_4 dp_cX3_mostOf rfl
theorem dX3_mostOf_71 : decode cX3_mostOf 71 = .ok (.isub, 1) := dq_100 dp_cX3_mostOf rfl
theorem dX3_mostOf_72 : decode cX3_mostOf 72 = .ok (.goto 5, 3) := dq_167 (v := 5) dp_cX3_mostOf rfl rfl
theorem dX3_mostOf_75 : decode cX3_mostOf 75 = .ok (.bipush 9, 2) := dq_16 (v := 9) dp_cX3_mostOf rfl rfl
theorem dX3_mostOf_77 : decode cX3_mostOf 77 = .ok (.ireturn, 1) := dq_172 dp_cX3_mostOf rfl
theorem dX3_mostOf_78 : decode cX3_mostOf 78 = .ok (.iload_n 2, 1) := dq_28 dp_cX3_mostOf rfl
theorem dX3_mostOf_79 : decode cX3_mostOf 79 = .ok (.ifCond .ne 8, 3) := dq_154 (v := 8) dp_cX3_mostOf rfl rfl
theorem dX3_mostOf_82 : decode cX3_mostOf 82 = .ok (.bipush 6, 2) := dq_16 (v := 6) dp_cX3_mostOf rfl rfl
theorem dX3_mostOf_84 : decode cX3_mostOf 84 = .ok (.goto 15, 3) := dq_167 (v := 15) dp_cX3_mostOf rfl rfl
theorem dX3_mostOf_87 : decode cX3_mostOf 87 = .ok (.iload_n 2, 1) := dq_28 dp_cX3_mostOf rfl
theorem dX3_mostOf_88 : decode cX3_mostOf 88 = .ok (.iconst 1, 1) := dq_4 dp_cX3_mostOf rfl
theorem dX3_mostOf_89 : decode cX3_mostOf 89 = .ok (.if_icmp .ne 8, 3) := dq_160 (v := 8) dp_cX3_mostOf rfl rfl
theorem dX3_mostOf_92 : decode cX3_mostOf 92 = .ok (.bipush 9, 2) := dq_16 (v := 9) dp_cX3_mostOf rfl rfl
theorem dX3_mostOf_94 : decode cX3_mostOf 94 = .ok (.goto 5, 3) := dq_167 (v := 5) dp_cX3_mostOf rfl rfl
theorem dX3_mostOf_97 : decode cX3_mostOf 97 = .ok (.bipush 60, 2) := dq_16 (v := 60) dp_cX3_mostOf rfl rfl
theorem dX3_mostOf_99 : decode cX3_mostOf 99 = .ok (.ireturn, 1) := dq_172 dp_cX3_mostOf rfl
theorem dX3_mostOf_100 : decode cX3_mostOf 100 = .ok (.bipush 24, 2) := dq_16 (v := 24) dp_cX3_mostOf rfl rfl
theorem dX3_mostOf_102 : decode cX3_mostOf 102 = .ok (.ireturn, 1) := dq_172 dp_cX3_mostOf rfl
theorem dX3_mostOf_103 : decode cX3_mostOf 103 = .ok (.sipush 300, 3) := dq_17 (v := 300) dp_cX3_mostOf rfl rfl
theorem dX3_mostOf_106 : decode cX3_mostOf 106 = .ok (.ireturn, 1) := dq_172 dp_cX3_mostOf rfl
theorem dX3_mostOf_107 : decode cX3_mostOf 107 = .ok (.bipush 9, 2) := dq_16 (v := 9) dp_cX3_mostOf rfl rfl
theorem dX3_mostOf_109 : decode cX3_mostOf 109 = .ok (.ireturn, 1) := dq_172 dp_cX3_mostOf rfl
theorem dX3_mostOf_110 : decode cX3_mostOf 110 = .ok (.bipush 9, 2) := dq_16 (v := 9) dp_cX3_mostOf rfl rfl
theorem dX3_mostOf_112 : decode cX3_mostOf 112 = .ok (.ireturn, 1) := dq_172 dp_cX3_mostOf rfl
theorem dX3_mostOf_113 : decode cX3_mostOf 113 = .ok (.iload_n 2, 1) := dq_28 dp_cX3_mostOf rfl
theorem dX3_mostOf_114 : decode cX3_mostOf 114 = .ok (.ifCond .ne 7, 3) := dq_154 (v := 7) dp_cX3_mostOf rfl rfl
theorem dX3_mostOf_117 : decode cX3_mostOf 117 = .ok (.iconst 2, 1) := dq_5 dp_cX3_mostOf rfl
theorem dX3_mostOf_118 : decode cX3_mostOf 118 = .ok (.goto 5, 3) := dq_167 (v := 5) dp_cX3_mostOf rfl rfl
theorem dX3_mostOf_121 : decode cX3_mostOf 121 = .ok (.bipush 99, 2) := dq_16 (v := 99) dp_cX3_mostOf rfl rfl
theorem dX3_mostOf_123 : decode cX3_mostOf 123 = .ok (.ireturn, 1) := dq_172 dp_cX3_mostOf rfl
theorem dX3_mostOf_124 : decode cX3_mostOf 124 = .ok (.aload_n 0, 1) := dq_42 dp_cX3_mostOf rfl
theorem dX3_mostOf_125 : decode cX3_mostOf 125 = .ok (.getfield 31, 3) := dq_180 dp_cX3_mostOf rfl
theorem dX3_mostOf_128 : decode cX3_mostOf 128 = .ok (.ireturn, 1) := dq_172 dp_cX3_mostOf rfl
set_option maxRecDepth 20000 in
theorem gl_X3_tell_X30 : GoodIn wsX3_tell wsX30 := (dg_t (dg_l (dg_l (dg_l (dg_r gw_wsX30)))))
theorem gl_X3_tell_X00 : GoodIn wsX3_tell wsX00 := (dg_t (dg_l (dg_l (dg_r gw_wsX00))))
theorem gl_X3_tell_X60 : GoodIn wsX3_tell wsX60 := (dg_t (dg_l (dg_r gw_wsX60)))
theorem gl_X3_tell_X20 : GoodIn wsX3_tell wsX20 := (dg_t (dg_r gw_wsX20))
theorem ggX3_tell_X3_tellItem : GoodIn wsX3_tell wsX3_tellItem := (dg_c 6 rfl rfl (goodIn_app (goodIn_app (goodIn_app (goodIn_app (goodIn_app (dg_c 7 rfl rfl (dg_c 8 rfl rfl (dg_c 9 rfl rfl (dg_c 10 rfl rfl (dg_c 11 rfl rfl (dg_c 12 rfl rfl (dg_c 13 rfl rfl (dg_c 14 rfl rfl (dg_c 15 rfl rfl (dg_c 16 rfl rfl (dg_c 17 rfl rfl (dg_c 18 rfl rfl (dg_c 19 rfl rfl (dg_c 20 rfl rfl (dg_c 21 rfl rfl (dg_c 22 rfl rfl (dg_c 23 rfl rfl (dg_c 24 rfl rfl (dg_c 25 rfl rfl (dg_c 26 rfl rfl (dg_c 27 rfl rfl (dg_c 28 rfl rfl (dg_c 29 rfl rfl (dg_c 30 rfl rfl dg_0)))))))))))))))))))))))) (dg_c 31 rfl rfl (dg_c 32 rfl rfl (dg_c 33 rfl rfl (dg_c 34 rfl rfl (dg_c 35 rfl rfl (dg_c 36 rfl rfl (dg_c 37 rfl rfl (dg_c 38 rfl rfl (dg_c 39 rfl rfl (dg_c 40 rfl rfl (dg_c 41 rfl rfl (dg_c 42 rfl rfl (dg_c 43 rfl rfl (dg_c 44 rfl rfl (dg_c 45 rfl rfl (dg_c 46 rfl rfl (dg_c 47 rfl rfl (dg_c 48 rfl rfl (dg_c 49 rfl rfl (dg_c 50 rfl rfl (dg_c 51 rfl rfl (dg_c 52 rfl rfl (dg_c 53 rfl rfl (dg_c 54 rfl rfl dg_0))))))))))))))))))))))))) gl_X3_tell_X30) gl_X3_tell_X00) gl_X3_tell_X60) gl_X3_tell_X20))
set_option maxRecDepth 20000 in
theorem gX3_tell_X3_tellItem : GoodIn wsX3_tell (wsV RX3 132 RX3 yX3_tellItem wsX3_tellItem) := goodIn_app (dg_c 2 rfl rfl (dg_c 3 rfl rfl (dg_c 4 rfl rfl (dg_c 5 rfl rfl dg_0)))) ggX3_tell_X3_tellItem
theorem dX3_tell_0 : decode cX3_tell 0 = .ok (.iconst 0, 1) := dq_3 dp_cX3_tell rfl
theorem dX3_tell_1 : decode cX3_tell 1 = .ok (.istore_n 2, 1) := dq_61 dp_cX3_tell rfl
theorem dX3_tell_2 : decode cX3_tell 2 = .ok (.iload_n 2, 1) := dq_28 dp_cX3_tell rfl
theorem dX3_tell_3 : decode cX3_tell 3 = .ok (.aload_n 0, 1) := dq_42 dp_cX3_tell rfl
theorem dX3_tell_4 : decode cX3_tell 4 = .ok (.getfield 22, 3) := dq_180 dp_cX3_tell rfl
theorem dX3_tell_7 : decode cX3_tell 7 = .ok (.if_icmp .ge 17, 3) := dq_162 (v := 17) dp_cX3_tell rfl rfl
theorem dX3_tell_10 : decode cX3_tell 10 = .ok (.aload_n 0, 1) := dq_42 dp_cX3_tell rfl
theorem dX3_tell_11 : decode cX3_tell 11 = .ok (.aload_n 1, 1) := dq_43 dp_cX3_tell rfl
theorem dX3_tell_12 : decode cX3_tell 12 = .ok (.iload_n 2, 1) := dq_28 dp_cX3_tell rfl
theorem dX3_tell_13 : decode cX3_tell 13 = .ok (.iconst 4, 1) := dq_7 dp_cX3_tell rfl
theorem dX3_tell_14 : decode cX3_tell 14 = .ok (.imul, 1) := dq_104 dp_cX3_tell rfl
theorem dX3_tell_15 : decode cX3_tell 15 = .ok (.invokevirtual 132, 3) := dq_182 dp_cX3_tell rfl
theorem dX3_tell_18 : decode cX3_tell 18 = .ok (.iinc 2 1, 3) := dq_132 (v := 1) dp_cX3_tell rfl (by decide) rfl
theorem dX3_tell_21 : decode cX3_tell 21 = .ok (.goto (-19), 3) := dq_167 (v := 65517) dp_cX3_tell rfl rfl
theorem dX3_tell_24 : decode cX3_tell 24 = .ok (.return_, 1) := dq_177 dp_cX3_tell rfl
set_option maxRecDepth 20000 in
theorem gl_X3_tellItem_X60 : GoodIn wsX3_tellItem wsX60 := (dg_t (dg_l (dg_r gw_wsX60)))
theorem ggX3_tellItem_X6_renew : GoodIn wsX3_tellItem wsX6_renew := (dg_c 11 rfl rfl (dg_c 12 rfl rfl (dg_c 13 rfl rfl (dg_c 14 rfl rfl (dg_c 15 rfl rfl gl_X3_tellItem_X60)))))
set_option maxRecDepth 20000 in
theorem gX3_tellItem_X6_renew : GoodIn wsX3_tellItem (wsV RX3 142 RX6 yX6_renew wsX6_renew) := goodIn_app (dg_c 7 rfl rfl (dg_c 8 rfl rfl (dg_c 9 rfl rfl (dg_c 10 rfl rfl dg_0)))) ggX3_tellItem_X6_renew
set_option maxRecDepth 20000 in
theorem gl_X3_tellItem_X00 : GoodIn wsX3_tellItem wsX00 := (dg_t (dg_l (dg_l (dg_r gw_wsX00))))
theorem gl_X3_tellItem_X20 : GoodIn wsX3_tellItem wsX20 := (dg_t (dg_r gw_wsX20))
theorem ggX3_tellItem_X0_addPull : GoodIn wsX3_tellItem wsX0_addPull := (dg_c 20 rfl rfl (dg_c 21 rfl rfl (dg_c 22 rfl rfl (dg_c 23 rfl rfl (dg_c 24 rfl rfl (dg_c 25 rfl rfl (dg_c 26 rfl rfl (dg_c 27 rfl rfl (dg_c 28 rfl rfl (dg_c 29 rfl rfl (dg_c 30 rfl rfl (dg_c 31 rfl rfl (dg_c 32 rfl rfl (dg_c 33 rfl rfl (dg_c 34 rfl rfl (goodIn_app gl_X3_tellItem_X00 gl_X3_tellItem_X20))))))))))))))))
set_option maxRecDepth 20000 in
theorem gX3_tellItem_X0_addPull : GoodIn wsX3_tellItem (wsV RX3 154 RX0 yX0_addPull wsX0_addPull) := goodIn_app (dg_c 16 rfl rfl (dg_c 17 rfl rfl (dg_c 18 rfl rfl (dg_c 19 rfl rfl dg_0)))) ggX3_tellItem_X0_addPull
set_option maxRecDepth 20000 in
theorem ggX3_tellItem_X0_setNumber : GoodIn wsX3_tellItem wsX0_setNumber := (dg_c 38 rfl rfl (dg_c 39 rfl rfl (dg_c 40 rfl rfl (dg_c 41 rfl rfl (dg_c 42 rfl rfl (dg_c 43 rfl rfl (dg_c 44 rfl rfl (dg_c 45 rfl rfl (dg_c 46 rfl rfl (dg_c 47 rfl rfl (dg_c 48 rfl rfl (goodIn_app gl_X3_tellItem_X00 gl_X3_tellItem_X60))))))))))))
set_option maxRecDepth 20000 in
theorem gX3_tellItem_X0_setNumber : GoodIn wsX3_tellItem (wsV RX3 163 RX0 yX0_setNumber wsX0_setNumber) := goodIn_app (dg_c 35 rfl rfl (dg_c 36 rfl rfl (dg_c 37 rfl rfl (dg_c 19 rfl rfl dg_0)))) ggX3_tellItem_X0_setNumber
theorem dX3_tellItem_0 : decode cX3_tellItem 0 = .ok (.aload_n 0, 1) := dq_42 dp_cX3_tellItem rfl
theorem dX3_tellItem_1 : decode cX3_tellItem 1 = .ok (.getfield 11, 3) := dq_180 dp_cX3_tellItem rfl
theorem dX3_tellItem_4 : decode cX3_tellItem 4 = .ok (.iload_n 2, 1) := dq_28 dp_cX3_tellItem rfl
theorem dX3_tellItem_5 : decode cX3_tellItem 5 = .ok (.iconst 1, 1) := dq_4 dp_cX3_tellItem rfl
theorem dX3_tellItem_6 : decode cX3_tellItem 6 = .ok (.iadd, 1) := dq_96 dp_cX3_tellItem rfl
theorem dX3_tellItem_7 : decode cX3_tellItem 7 = .ok (.iaload, 1) := dq_46 dp_cX3_tellItem rfl
theorem dX3_tellItem_8 : decode cX3_tellItem 8 = .ok (.istore_n 3, 1) := dq_62 dp_cX3_tellItem rfl
theorem dX3_tellItem_9 : decode cX3_tellItem 9 = .ok (.aload_n 0, 1) := dq_42 dp_cX3_tellItem rfl
theorem dX3_tellItem_10 : decode cX3_tellItem 10 = .ok (.getfield 11, 3) := dq_180 dp_cX3_tellItem rfl
theorem dX3_tellItem_13 : decode cX3_tellItem 13 = .ok (.iload_n 2, 1) := dq_28 dp_cX3_tellItem rfl
theorem dX3_tellItem_14 : decode cX3_tellItem 14 = .ok (.iconst 2, 1) := dq_5 dp_cX3_tellItem rfl
theorem dX3_tellItem_15 : decode cX3_tellItem 15 = .ok (.iadd, 1) := dq_96 dp_cX3_tellItem rfl
theorem dX3_tellItem_16 : decode cX3_tellItem 16 = .ok (.iaload, 1) := dq_46 dp_cX3_tellItem rfl
theorem dX3_tellItem_17 : decode cX3_tellItem 17 = .ok (.istore 4, 2) := dq_54 dp_cX3_tellItem rfl
theorem dX3_tellItem_19 : decode cX3_tellItem 19 = .ok (.aload_n 0, 1) := dq_42 dp_cX3_tellItem rfl
theorem dX3_tellItem_20 : decode cX3_tellItem 20 = .ok (.getfield 11, 3) := dq_180 dp_cX3_tellItem rfl
theorem dX3_tellItem_23 : decode cX3_tellItem 23 = .ok (.iload_n 2, 1) := dq_28 dp_cX3_tellItem rfl
theorem dX3_tellItem_24 : decode cX3_tellItem 24 = .ok (.iaload, 1) := dq_46 dp_cX3_tellItem rfl
theorem dX3_tellItem_25 : decode cX3_tellItem 25 = .ok (.tableswitch 134 0 9 #[55, 66, 79, 93, 134, 134, 134, 134, 112, 123], 55) := by decide +kernel
theorem dX3_tellItem_80 : decode cX3_tellItem 80 = .ok (.aload_n 1, 1) := dq_43 dp_cX3_tellItem rfl
theorem dX3_tellItem_81 : decode cX3_tellItem 81 = .ok (.getfield 136, 3) := dq_180 dp_cX3_tellItem rfl
theorem dX3_tellItem_84 : decode cX3_tellItem 84 = .ok (.iload_n 3, 1) := dq_29 dp_cX3_tellItem rfl
theorem dX3_tellItem_85 : decode cX3_tellItem 85 = .ok (.invokevirtual 142, 3) := dq_182 dp_cX3_tellItem rfl
theorem dX3_tellItem_88 : decode cX3_tellItem 88 = .ok (.goto 84, 3) := dq_167 (v := 84) dp_cX3_tellItem rfl rfl
theorem dX3_tellItem_91 : decode cX3_tellItem 91 = .ok (.aload_n 1, 1) := dq_43 dp_cX3_tellItem rfl
theorem dX3_tellItem_92 : decode cX3_tellItem 92 = .ok (.getfield 136, 3) := dq_180 dp_cX3_tellItem rfl
theorem dX3_tellItem_95 : decode cX3_tellItem 95 = .ok (.getfield 147, 3) := dq_180 dp_cX3_tellItem rfl
theorem dX3_tellItem_98 : decode cX3_tellItem 98 = .ok (.iload_n 3, 1) := dq_29 dp_cX3_tellItem rfl
theorem dX3_tellItem_99 : decode cX3_tellItem 99 = .ok (.iconst 1, 1) := dq_4 dp_cX3_tellItem rfl
theorem dX3_tellItem_100 : decode cX3_tellItem 100 = .ok (.bastore, 1) := dq_84 dp_cX3_tellItem rfl
theorem dX3_tellItem_101 : decode cX3_tellItem 101 = .ok (.goto 71, 3) := dq_167 (v := 71) dp_cX3_tellItem rfl rfl
theorem dX3_tellItem_104 : decode cX3_tellItem 104 = .ok (.aload_n 1, 1) := dq_43 dp_cX3_tellItem rfl
theorem dX3_tellItem_105 : decode cX3_tellItem 105 = .ok (.getfield 136, 3) := dq_180 dp_cX3_tellItem rfl
theorem dX3_tellItem_108 : decode cX3_tellItem 108 = .ok (.getfield 151, 3) := dq_180 dp_cX3_tellItem rfl
theorem dX3_tellItem_111 : decode cX3_tellItem 111 = .ok (.iload_n 3, 1) := dq_29 dp_cX3_tellItem rfl
theorem dX3_tellItem_112 : decode cX3_tellItem 112 = .ok (.iload 4, 2) := dq_21 dp_cX3_tellItem rfl
theorem dX3_tellItem_114 : decode cX3_tellItem 114 = .ok (.iastore, 1) := dq_79 dp_cX3_tellItem rfl
theorem dX3_tellItem_115 : decode cX3_tellItem 115 = .ok (.goto 57, 3) := dq_167 (v := 57) dp_cX3_tellItem rfl rfl
theorem dX3_tellItem_118 : decode cX3_tellItem 118 = .ok (.aload_n 1, 1) := dq_43 dp_cX3_tellItem rfl
theorem dX3_tellItem_119 : decode cX3_tellItem 119 = .ok (.iload_n 3, 1) := dq_29 dp_cX3_tellItem rfl
theorem dX3_tellItem_120 : decode cX3_tellItem 120 = .ok (.iload 4, 2) := dq_21 dp_cX3_tellItem rfl
theorem dX3_tellItem_122 : decode cX3_tellItem 122 = .ok (.aload_n 0, 1) := dq_42 dp_cX3_tellItem rfl
theorem dX3_tellItem_123 : decode cX3_tellItem 123 = .ok (.getfield 11, 3) := dq_180 dp_cX3_tellItem rfl
theorem dX3_tellItem_126 : decode cX3_tellItem 126 = .ok (.iload_n 2, 1) := dq_28 dp_cX3_tellItem rfl
theorem dX3_tellItem_127 : decode cX3_tellItem 127 = .ok (.iconst 3, 1) := dq_6 dp_cX3_tellItem rfl
theorem dX3_tellItem_128 : decode cX3_tellItem 128 = .ok (.iadd, 1) := dq_96 dp_cX3_tellItem rfl
theorem dX3_tellItem_129 : decode cX3_tellItem 129 = .ok (.iaload, 1) := dq_46 dp_cX3_tellItem rfl
theorem dX3_tellItem_130 : decode cX3_tellItem 130 = .ok (.invokevirtual 154, 3) := dq_182 dp_cX3_tellItem rfl
theorem dX3_tellItem_133 : decode cX3_tellItem 133 = .ok (.pop, 1) := dq_87 dp_cX3_tellItem rfl
theorem dX3_tellItem_134 : decode cX3_tellItem 134 = .ok (.goto 38, 3) := dq_167 (v := 38) dp_cX3_tellItem rfl rfl
theorem dX3_tellItem_137 : decode cX3_tellItem 137 = .ok (.aload_n 1, 1) := dq_43 dp_cX3_tellItem rfl
theorem dX3_tellItem_138 : decode cX3_tellItem 138 = .ok (.getfield 158, 3) := dq_180 dp_cX3_tellItem rfl
theorem dX3_tellItem_141 : decode cX3_tellItem 141 = .ok (.iload_n 3, 1) := dq_29 dp_cX3_tellItem rfl
theorem dX3_tellItem_142 : decode cX3_tellItem 142 = .ok (.iload 4, 2) := dq_21 dp_cX3_tellItem rfl
theorem dX3_tellItem_144 : decode cX3_tellItem 144 = .ok (.iastore, 1) := dq_79 dp_cX3_tellItem rfl
theorem dX3_tellItem_145 : decode cX3_tellItem 145 = .ok (.goto 27, 3) := dq_167 (v := 27) dp_cX3_tellItem rfl rfl
theorem dX3_tellItem_148 : decode cX3_tellItem 148 = .ok (.aload_n 1, 1) := dq_43 dp_cX3_tellItem rfl
theorem dX3_tellItem_149 : decode cX3_tellItem 149 = .ok (.getfield 136, 3) := dq_180 dp_cX3_tellItem rfl
theorem dX3_tellItem_152 : decode cX3_tellItem 152 = .ok (.iload_n 3, 1) := dq_29 dp_cX3_tellItem rfl
theorem dX3_tellItem_153 : decode cX3_tellItem 153 = .ok (.putfield 161, 3) := dq_181 dp_cX3_tellItem rfl
theorem dX3_tellItem_156 : decode cX3_tellItem 156 = .ok (.goto 16, 3) := dq_167 (v := 16) dp_cX3_tellItem rfl rfl
theorem dX3_tellItem_159 : decode cX3_tellItem 159 = .ok (.aload_n 1, 1) := dq_43 dp_cX3_tellItem rfl
theorem dX3_tellItem_160 : decode cX3_tellItem 160 = .ok (.aload_n 0, 1) := dq_42 dp_cX3_tellItem rfl
theorem dX3_tellItem_161 : decode cX3_tellItem 161 = .ok (.getfield 11, 3) := dq_180 dp_cX3_tellItem rfl
theorem dX3_tellItem_164 : decode cX3_tellItem 164 = .ok (.iload_n 2, 1) := dq_28 dp_cX3_tellItem rfl
theorem dX3_tellItem_165 : decode cX3_tellItem 165 = .ok (.iaload, 1) := dq_46 dp_cX3_tellItem rfl
theorem dX3_tellItem_166 : decode cX3_tellItem 166 = .ok (.iconst 4, 1) := dq_7 dp_cX3_tellItem rfl
theorem dX3_tellItem_167 : decode cX3_tellItem 167 = .ok (.isub, 1) := dq_100 dp_cX3_tellItem rfl
theorem dX3_tellItem_168 : decode cX3_tellItem 168 = .ok (.iload_n 3, 1) := dq_29 dp_cX3_tellItem rfl
theorem dX3_tellItem_169 : decode cX3_tellItem 169 = .ok (.invokevirtual 163, 3) := dq_182 dp_cX3_tellItem rfl
theorem dX3_tellItem_172 : decode cX3_tellItem 172 = .ok (.return_, 1) := dq_177 dp_cX3_tellItem rfl
set_option maxRecDepth 20000 in
theorem ggJ0_length_8abf5_J0_coder_7d493 : GoodIn wsJ0_length_8abf5 wsJ0_coder_7d493 := (dg_c 6 rfl rfl (dg_c 7 rfl rfl (dg_c 8 rfl rfl dg_0)))
set_option maxRecDepth 20000 in
theorem gJ0_length_8abf5_J0_coder_7d493 : GoodIn wsJ0_length_8abf5 (wsV RJ0 335 RJ0 yJ0_coder_7d493 wsJ0_coder_7d493) := goodIn_app (dg_c 2 rfl rfl (dg_c 3 rfl rfl (dg_c 4 rfl rfl (dg_c 5 rfl rfl dg_0)))) ggJ0_length_8abf5_J0_coder_7d493
theorem dJ0_length_8abf5_0 : decode cJ0_length_8abf5 0 = .ok (.aload_n 0, 1) := dq_42 dp_cJ0_length_8abf5 rfl
theorem dJ0_length_8abf5_1 : decode cJ0_length_8abf5 1 = .ok (.getfield 9, 3) := dq_180 dp_cJ0_length_8abf5 rfl
theorem dJ0_length_8abf5_4 : decode cJ0_length_8abf5 4 = .ok (.arraylength, 1) := dq_190 dp_cJ0_length_8abf5 rfl
theorem dJ0_length_8abf5_5 : decode cJ0_length_8abf5 5 = .ok (.aload_n 0, 1) := dq_42 dp_cJ0_length_8abf5 rfl
theorem dJ0_length_8abf5_6 : decode cJ0_length_8abf5 6 = .ok (.invokevirtual 335, 3) := dq_182 dp_cJ0_length_8abf5 rfl
theorem dJ0_length_8abf5_9 : decode cJ0_length_8abf5 9 = .ok (.ishr, 1) := dq_122 dp_cJ0_length_8abf5 rfl
theorem dJ0_length_8abf5_10 : decode cJ0_length_8abf5 10 = .ok (.ireturn, 1) := dq_172 dp_cJ0_length_8abf5 rfl
set_option maxRecDepth 20000 in
theorem ggJ0_charAt_5068e_J0_isLatin1_aae02 : GoodIn wsJ0_charAt_5068e wsJ0_isLatin1_aae02 := (dg_c 6 rfl rfl (dg_c 7 rfl rfl (dg_c 8 rfl rfl dg_0)))
set_option maxRecDepth 20000 in
theorem gJ0_charAt_5068e_J0_isLatin1_aae02 : GoodIn wsJ0_charAt_5068e (wsV RJ0 492 RJ0 yJ0_isLatin1_aae02 wsJ0_isLatin1_aae02) := goodIn_app (dg_c 2 rfl rfl (dg_c 3 rfl rfl (dg_c 4 rfl rfl (dg_c 5 rfl rfl dg_0)))) ggJ0_charAt_5068e_J0_isLatin1_aae02
set_option maxRecDepth 20000 in
theorem ggJ0_charAt_5068e_J1_charAt_3b067 : GoodIn wsJ0_charAt_5068e wsJ1_charAt_3b067 := (dg_c 12 rfl rfl (dg_c 13 rfl rfl (dg_c 14 rfl rfl (dg_c 5 rfl rfl (dg_c 15 rfl rfl (dg_c 16 rfl rfl (dg_c 17 rfl rfl (dg_c 18 rfl rfl (dg_c 19 rfl rfl (dg_c 20 rfl rfl dg_0))))))))))
set_option maxRecDepth 20000 in
theorem gJ0_charAt_5068e_J1_charAt_3b067 : GoodIn wsJ0_charAt_5068e (va_wsS RJ0 495 yJ1_charAt_3b067 wsJ1_charAt_3b067) := goodIn_app (dg_c 9 rfl rfl (dg_c 10 rfl rfl (dg_c 11 rfl rfl dg_0))) ggJ0_charAt_5068e_J1_charAt_3b067
theorem dJ0_charAt_5068e_0 : decode cJ0_charAt_5068e 0 = .ok (.aload_n 0, 1) := dq_42 dp_cJ0_charAt_5068e rfl
theorem dJ0_charAt_5068e_1 : decode cJ0_charAt_5068e 1 = .ok (.invokevirtual 492, 3) := dq_182 dp_cJ0_charAt_5068e rfl
theorem dJ0_charAt_5068e_4 : decode cJ0_charAt_5068e 4 = .ok (.ifCond .eq 12, 3) := dq_153 (v := 12) dp_cJ0_charAt_5068e rfl rfl
theorem dJ0_charAt_5068e_7 : decode cJ0_charAt_5068e 7 = .ok (.aload_n 0, 1) := dq_42 dp_cJ0_charAt_5068e rfl
theorem dJ0_charAt_5068e_8 : decode cJ0_charAt_5068e 8 = .ok (.getfield 9, 3) := dq_180 dp_cJ0_charAt_5068e rfl
theorem dJ0_charAt_5068e_11 : decode cJ0_charAt_5068e 11 = .ok (.iload_n 1, 1) := dq_27 dp_cJ0_charAt_5068e rfl
theorem dJ0_charAt_5068e_12 : decode cJ0_charAt_5068e 12 = .ok (.invokestatic 495, 3) := dq_184 dp_cJ0_charAt_5068e rfl
theorem dJ0_charAt_5068e_15 : decode cJ0_charAt_5068e 15 = .ok (.ireturn, 1) := dq_172 dp_cJ0_charAt_5068e rfl
theorem dJ0_coder_7d493_0 : decode cJ0_coder_7d493 0 = .ok (.getstatic 38, 3) := dq_178 dp_cJ0_coder_7d493 rfl
theorem dJ0_coder_7d493_3 : decode cJ0_coder_7d493 3 = .ok (.ifCond .eq 10, 3) := dq_153 (v := 10) dp_cJ0_coder_7d493 rfl rfl
theorem dJ0_coder_7d493_6 : decode cJ0_coder_7d493 6 = .ok (.aload_n 0, 1) := dq_42 dp_cJ0_coder_7d493 rfl
theorem dJ0_coder_7d493_7 : decode cJ0_coder_7d493 7 = .ok (.getfield 15, 3) := dq_180 dp_cJ0_coder_7d493 rfl
theorem dJ0_coder_7d493_10 : decode cJ0_coder_7d493 10 = .ok (.goto 4, 3) := dq_167 (v := 4) dp_cJ0_coder_7d493 rfl rfl
theorem dJ0_coder_7d493_14 : decode cJ0_coder_7d493 14 = .ok (.ireturn, 1) := dq_172 dp_cJ0_coder_7d493 rfl
theorem dJ0_isLatin1_aae02_0 : decode cJ0_isLatin1_aae02 0 = .ok (.getstatic 38, 3) := dq_178 dp_cJ0_isLatin1_aae02 rfl
theorem dJ0_isLatin1_aae02_3 : decode cJ0_isLatin1_aae02 3 = .ok (.ifCond .eq 14, 3) := dq_153 (v := 14) dp_cJ0_isLatin1_aae02 rfl rfl
theorem dJ0_isLatin1_aae02_6 : decode cJ0_isLatin1_aae02 6 = .ok (.aload_n 0, 1) := dq_42 dp_cJ0_isLatin1_aae02 rfl
theorem dJ0_isLatin1_aae02_7 : decode cJ0_isLatin1_aae02 7 = .ok (.getfield 15, 3) := dq_180 dp_cJ0_isLatin1_aae02 rfl
theorem dJ0_isLatin1_aae02_10 : decode cJ0_isLatin1_aae02 10 = .ok (.ifCond .ne 7, 3) := dq_154 (v := 7) dp_cJ0_isLatin1_aae02 rfl rfl
theorem dJ0_isLatin1_aae02_13 : decode cJ0_isLatin1_aae02 13 = .ok (.iconst 1, 1) := dq_4 dp_cJ0_isLatin1_aae02 rfl
theorem dJ0_isLatin1_aae02_14 : decode cJ0_isLatin1_aae02 14 = .ok (.goto 4, 3) := dq_167 (v := 4) dp_cJ0_isLatin1_aae02 rfl rfl
theorem dJ0_isLatin1_aae02_18 : decode cJ0_isLatin1_aae02 18 = .ok (.ireturn, 1) := dq_172 dp_cJ0_isLatin1_aae02 rfl
set_option maxRecDepth 20000 in
theorem ggJ0_checkIndex_df160_J3_checkIndex_8e157 : GoodIn wsJ0_checkIndex_df160 wsJ3_checkIndex_8e157 := (dg_c 5 rfl rfl dg_0)
set_option maxRecDepth 20000 in
theorem gJ0_checkIndex_df160_J3_checkIndex_8e157 : GoodIn wsJ0_checkIndex_df160 (va_wsS RJ0 1059 yJ3_checkIndex_8e157 wsJ3_checkIndex_8e157) := goodIn_app (dg_c 2 rfl rfl (dg_c 3 rfl rfl (dg_c 4 rfl rfl dg_0))) ggJ0_checkIndex_df160_J3_checkIndex_8e157
theorem dJ0_checkIndex_df160_0 : decode cJ0_checkIndex_df160 0 = .ok (.iload_n 0, 1) := dq_26 dp_cJ0_checkIndex_df160 rfl
theorem dJ0_checkIndex_df160_1 : decode cJ0_checkIndex_df160 1 = .ok (.iload_n 1, 1) := dq_27 dp_cJ0_checkIndex_df160 rfl
theorem dJ0_checkIndex_df160_2 : decode cJ0_checkIndex_df160 2 = .ok (.getstatic 1053, 3) := dq_178 dp_cJ0_checkIndex_df160 rfl
theorem dJ0_checkIndex_df160_5 : decode cJ0_checkIndex_df160 5 = .ok (.invokestatic 1059, 3) := dq_184 dp_cJ0_checkIndex_df160 rfl
theorem dJ0_checkIndex_df160_8 : decode cJ0_checkIndex_df160 8 = .ok (.pop, 1) := dq_87 dp_cJ0_checkIndex_df160 rfl
theorem dJ0_checkIndex_df160_9 : decode cJ0_checkIndex_df160 9 = .ok (.return_, 1) := dq_177 dp_cJ0_checkIndex_df160 rfl
set_option maxRecDepth 20000 in
theorem ggJ1_charAt_3b067_J0_checkIndex_df160 : GoodIn wsJ1_charAt_3b067 wsJ0_checkIndex_df160 := (dg_c 4 rfl rfl (dg_c 5 rfl rfl (dg_c 6 rfl rfl (dg_c 7 rfl rfl (dg_c 8 rfl rfl (dg_c 9 rfl rfl dg_0))))))
set_option maxRecDepth 20000 in
theorem gJ1_charAt_3b067_J0_checkIndex_df160 : GoodIn wsJ1_charAt_3b067 (va_wsS RJ1 9 yJ0_checkIndex_df160 wsJ0_checkIndex_df160) := goodIn_app (dg_c 1 rfl rfl (dg_c 2 rfl rfl (dg_c 3 rfl rfl dg_0))) ggJ1_charAt_3b067_J0_checkIndex_df160
theorem dJ1_charAt_3b067_0 : decode cJ1_charAt_3b067 0 = .ok (.iload_n 1, 1) := dq_27 dp_cJ1_charAt_3b067 rfl
theorem dJ1_charAt_3b067_1 : decode cJ1_charAt_3b067 1 = .ok (.aload_n 0, 1) := dq_42 dp_cJ1_charAt_3b067 rfl
theorem dJ1_charAt_3b067_2 : decode cJ1_charAt_3b067 2 = .ok (.arraylength, 1) := dq_190 dp_cJ1_charAt_3b067 rfl
theorem dJ1_charAt_3b067_3 : decode cJ1_charAt_3b067 3 = .ok (.invokestatic 9, 3) := dq_184 dp_cJ1_charAt_3b067 rfl
theorem dJ1_charAt_3b067_6 : decode cJ1_charAt_3b067 6 = .ok (.aload_n 0, 1) := dq_42 dp_cJ1_charAt_3b067 rfl
theorem dJ1_charAt_3b067_7 : decode cJ1_charAt_3b067 7 = .ok (.iload_n 1, 1) := dq_27 dp_cJ1_charAt_3b067 rfl
theorem dJ1_charAt_3b067_8 : decode cJ1_charAt_3b067 8 = .ok (.baload, 1) := dq_51 dp_cJ1_charAt_3b067 rfl
theorem dJ1_charAt_3b067_9 : decode cJ1_charAt_3b067 9 = .ok (.sipush 255, 3) := dq_17 (v := 255) dp_cJ1_charAt_3b067 rfl rfl
theorem dJ1_charAt_3b067_12 : decode cJ1_charAt_3b067 12 = .ok (.iand, 1) := dq_126 dp_cJ1_charAt_3b067 rfl
theorem dJ1_charAt_3b067_13 : decode cJ1_charAt_3b067 13 = .ok (.i2c, 1) := dq_146 dp_cJ1_charAt_3b067 rfl
theorem dJ1_charAt_3b067_14 : decode cJ1_charAt_3b067 14 = .ok (.ireturn, 1) := dq_172 dp_cJ1_charAt_3b067 rfl
theorem dJ3_checkIndex_8e157_0 : decode cJ3_checkIndex_8e157 0 = .ok (.iload_n 0, 1) := dq_26 dp_cJ3_checkIndex_8e157 rfl
theorem dJ3_checkIndex_8e157_1 : decode cJ3_checkIndex_8e157 1 = .ok (.ifCond .lt 8, 3) := dq_155 (v := 8) dp_cJ3_checkIndex_8e157 rfl rfl
theorem dJ3_checkIndex_8e157_4 : decode cJ3_checkIndex_8e157 4 = .ok (.iload_n 0, 1) := dq_26 dp_cJ3_checkIndex_8e157 rfl
theorem dJ3_checkIndex_8e157_5 : decode cJ3_checkIndex_8e157 5 = .ok (.iload_n 1, 1) := dq_27 dp_cJ3_checkIndex_8e157 rfl
theorem dJ3_checkIndex_8e157_6 : decode cJ3_checkIndex_8e157 6 = .ok (.if_icmp .lt 10, 3) := dq_161 (v := 10) dp_cJ3_checkIndex_8e157 rfl rfl
theorem dJ3_checkIndex_8e157_16 : decode cJ3_checkIndex_8e157 16 = .ok (.iload_n 0, 1) := dq_26 dp_cJ3_checkIndex_8e157 rfl
theorem dJ3_checkIndex_8e157_17 : decode cJ3_checkIndex_8e157 17 = .ok (.ireturn, 1) := dq_172 dp_cJ3_checkIndex_8e157 rfl
end
section
set_option maxHeartbeats 4000000 in
set_option maxRecDepth 100000 in
theorem c_S_coder (l : Launch) (D : va_G) (cI cJ cZ cP cS : ClassId) (po : zPool) (i : Nat) (hi : i < 10) : Met l yJ0_coder_7d493 wsJ0_coder_7d493 ({ frames := 0, cells := 0, slots := 0, locals := 0 }) (va_Pc [.ref (po.2.1 i)] (zR D (zKT cI cJ cZ cP cS) po [])) (vp_Si (fun r => r = 0)) 0 0 (fun _ => False) := by
  refine Met.ofW (cc := cJ0_coder_7d493) (maxL := 1) (ret := (some .byte)) (by decide) rfl ?_
  intro p e s m args below meth c s₁ B hml hv
  obtain ⟨rfl, hP, hK, hN, hZ⟩ := hv
  have hx := B.exec
  have hb := B.bytes
  have hr := B.returns
  have hts := atoms_spec (ws := wsJ0_coder_7d493) B.pre
  have hown : s.vm.findClass RJ0 = some m.cls := findClass_of_methodNamed B.named
  have hlocks := B.notSynchronized
  have hl := lv_entry ([.ref (po.2.1 i)]) (n := 1) (Nat.le_of_ble_eq_true rfl)
  rw [lg_entry_eq]
  generalize (lg_sl ([.ref (po.2.1 i)]) ++ List.replicate (1 - (lg_sl ([.ref (po.2.1 i)])).length) Slot.unset).toArray = ls at hl ⊢
  replace hl : lv_has ls 1 [(0, .ref (po.2.1 i))] := hl
  refine va_gets hx hb hZ.2.2.2.2.1 va_S.rf hown (hts (.fieldLink RJ0 38 "java/lang/String" "COMPACT_STRINGS" "Z") (List.mem_of_getElem? (i := 1) rfl)) (fun _ h9 => h9) dJ0_coder_7d493_0 ?_
  refine lv_if_eq (tgt := 13) hx hb dJ0_coder_7d493_3 (by decide) (fun c_1 => ?_) (fun c_1 => ?_)
  · exact absurd c_1 (by decide)
  · refine lv_aload_n hx hb dJ0_coder_7d493_6 rfl (lv_at hl 0 rfl) ?_
    refine vk_getf hx hb (hZ.2.2.1.1 i hi).2.1 va_S.rf hown (hts (.fieldLink RJ0 15 "java/lang/String" "coder" "B") (List.mem_of_getElem? (i := 2) rfl)) (fun _ h9 => h9) dJ0_coder_7d493_7 ?_
    refine lv_goto (tgt := 14) hx hb dJ0_coder_7d493_10 (by decide) ?_
    exact W.zret (v := 0) hx hb hr (by decide) (fun t ht hW => ⟨0, rfl, rfl, ht⟩) (fun q hq => by cases hq) dJ0_coder_7d493_14
set_option maxHeartbeats 4000000 in
set_option maxRecDepth 100000 in
theorem c_S_isLatin (l : Launch) (D : va_G) (cI cJ cZ cP cS : ClassId) (po : zPool) (i : Nat) (hi : i < 10) : Met l yJ0_isLatin1_aae02 wsJ0_isLatin1_aae02 ({ frames := 0, cells := 0, slots := 0, locals := 0 }) (va_Pc [.ref (po.2.1 i)] (zR D (zKT cI cJ cZ cP cS) po [])) (vp_Si (fun r => r = 1)) 0 0 (fun _ => False) := by
  refine Met.ofW (cc := cJ0_isLatin1_aae02) (maxL := 1) (ret := (some .boolean)) (by decide) rfl ?_
  intro p e s m args below meth c s₁ B hml hv
  obtain ⟨rfl, hP, hK, hN, hZ⟩ := hv
  have hx := B.exec
  have hb := B.bytes
  have hr := B.returns
  have hts := atoms_spec (ws := wsJ0_isLatin1_aae02) B.pre
  have hown : s.vm.findClass RJ0 = some m.cls := findClass_of_methodNamed B.named
  have hlocks := B.notSynchronized
  have hl := lv_entry ([.ref (po.2.1 i)]) (n := 1) (Nat.le_of_ble_eq_true rfl)
  rw [lg_entry_eq]
  generalize (lg_sl ([.ref (po.2.1 i)]) ++ List.replicate (1 - (lg_sl ([.ref (po.2.1 i)])).length) Slot.unset).toArray = ls at hl ⊢
  replace hl : lv_has ls 1 [(0, .ref (po.2.1 i))] := hl
  refine va_gets hx hb hZ.2.2.2.2.1 va_S.rf hown (hts (.fieldLink RJ0 38 "java/lang/String" "COMPACT_STRINGS" "Z") (List.mem_of_getElem? (i := 1) rfl)) (fun _ h9 => h9) dJ0_isLatin1_aae02_0 ?_
  refine lv_if_eq (tgt := 17) hx hb dJ0_isLatin1_aae02_3 (by decide) (fun c_1 => ?_) (fun c_1 => ?_)
  · exact absurd c_1 (by decide)
  · refine lv_aload_n hx hb dJ0_isLatin1_aae02_6 rfl (lv_at hl 0 rfl) ?_
    refine vk_getf hx hb (hZ.2.2.1.1 i hi).2.1 va_S.rf hown (hts (.fieldLink RJ0 15 "java/lang/String" "coder" "B") (List.mem_of_getElem? (i := 2) rfl)) (fun _ h9 => h9) dJ0_isLatin1_aae02_7 ?_
    refine lv_if_ne (tgt := 17) hx hb dJ0_isLatin1_aae02_10 (by decide) (fun c_2 => ?_) (fun c_2 => ?_)
    · exact absurd c_2 (by decide)
    · refine lv_iconst (v := 1) hx hb dJ0_isLatin1_aae02_13 (by decide) ?_
      refine lv_goto (tgt := 18) hx hb dJ0_isLatin1_aae02_14 (by decide) ?_
      exact W.zret (v := 1) hx hb hr (by decide) (fun t ht hW => ⟨1, rfl, rfl, ht⟩) (fun q hq => by cases hq) dJ0_isLatin1_aae02_18
set_option maxHeartbeats 4000000 in
set_option maxRecDepth 100000 in
theorem c_S_length (l : Launch) (D : va_G) (cI cJ cZ cP cS : ClassId) (po : zPool) (i : Nat) (hi : i < 10) : Met l yJ0_length_8abf5 wsJ0_length_8abf5 ({ frames := 1, cells := 0, slots := 0, locals := 20 }) (va_Pc [.ref (po.2.1 i)] (zR D (zKT cI cJ cZ cP cS) po [])) (vp_Si (fun r => 2 ≤ r.toInt ∧ r.toInt ≤ 7 ∧ (r.toInt = (zLen.getD i 0 : Nat)))) 0 0 (fun _ => False) := by
  refine Met.ofW (cc := cJ0_length_8abf5) (maxL := 1) (ret := (some .int)) (by decide) rfl ?_
  intro p e s m args below meth c s₁ B hml hv
  obtain ⟨rfl, hP, hK, hN, hZ⟩ := hv
  have hx := B.exec
  have hb := B.bytes
  have hr := B.returns
  have hts := atoms_spec (ws := wsJ0_length_8abf5) B.pre
  have hown : s.vm.findClass RJ0 = some m.cls := findClass_of_methodNamed B.named
  have hlocks := B.notSynchronized
  have hl := lv_entry ([.ref (po.2.1 i)]) (n := 1) (Nat.le_of_ble_eq_true rfl)
  rw [lg_entry_eq]
  generalize (lg_sl ([.ref (po.2.1 i)]) ++ List.replicate (1 - (lg_sl ([.ref (po.2.1 i)])).length) Slot.unset).toArray = ls at hl ⊢
  replace hl : lv_has ls 1 [(0, .ref (po.2.1 i))] := hl
  refine lv_aload_n hx hb dJ0_length_8abf5_0 rfl (lv_at hl 0 rfl) ?_
  refine vk_getf hx hb (hZ.2.2.1.1 i hi).2.2.1 va_S.rf hown (hts (.fieldLink RJ0 9 "java/lang/String" "value" "[B") (List.mem_of_getElem? (i := 1) rfl)) (fun _ h9 => h9) dJ0_length_8abf5_1 ?_
  refine va_tlen hx hb (hZ.2.2.1.1 i hi).2.2.2 va_S.rf rfl dJ0_length_8abf5_4 ?_
  refine lv_topi (fun x_1 ex_1 => ?_)
  have bx_1 : x_1.toInt = (zLen.getD i 0 : Nat) ∧ 2 ≤ x_1.toInt ∧ x_1.toInt ≤ 7 := by rw [ex_1]; exact zs_len i hi
  refine lv_aload_n hx hb dJ0_length_8abf5_5 rfl (lv_at hl 0 rfl) ?_
  refine zc_V (As := []) (rest := [.int x_1]) ⟨hx, hb, hml, hown, hts⟩ (c_S_coder l D cI cJ cZ cP cS po i hi) (cwV 0 hts gJ0_length_8abf5_J0_coder_7d493 rfl rfl rfl ⟨rfl, dh_J0_coder_7d493⟩ ⟨Nat.le_of_ble_eq_true rfl, Nat.le_of_ble_eq_true rfl⟩) hK hN hZ hP zP_nil (vk_recv hZ.2.2.1 hi va_S.rf) rfl hl.1 rfl (Nat.le_of_ble_eq_true rfl) dJ0_length_8abf5_6 ⟨Nat.le_of_ble_eq_true rfl, Nat.le_of_ble_eq_true rfl⟩ (fun r_2 hr_2 => ?_)
  obtain rfl := hr_2
  refine lv_ishr hx hb dJ0_length_8abf5_9 ?_
  refine lv_topi (fun x_3 ex_3 => ?_)
  obtain rfl : x_1 = x_3 := (ex_3.trans (zs_shr0 _)).symm
  exact W.iret (v := x_1) hx hb hr (fun t ht hW => ⟨x_1, rfl, ⟨by omega, by omega, (show (x_1 : Int32).toInt = (zLen.getD i 0 : Nat) from by first | assumption | omega)⟩, ht⟩) (fun q hq => by cases hq) dJ0_length_8abf5_10
set_option maxHeartbeats 4000000 in
set_option maxRecDepth 100000 in
theorem c_S_chk3_0 (l : Launch) (D : va_G) (cI cJ cZ cP cS : ClassId) (po : zPool) (k n : Int32) (hy0 : 0 ≤ k.toInt) (hy1 : k.toInt < n.toInt) : Met l yJ3_checkIndex_8e157 wsJ3_checkIndex_8e157 ({ frames := 0, cells := 0, slots := 0, locals := 0 }) (va_Pc [.int k, .int n, .null] (zR D (zKT cI cJ cZ cP cS) po [])) (vp_Si (fun r => r = k)) 0 0 (fun _ => False) := by
  refine Met.ofW (cc := cJ3_checkIndex_8e157) (maxL := 3) (ret := (some .int)) (by decide) rfl ?_
  intro p e s m args below meth c s₁ B hml hv
  obtain ⟨rfl, hP, hK, hN, hZ⟩ := hv
  have hx := B.exec
  have hb := B.bytes
  have hr := B.returns
  have hts := atoms_spec (ws := wsJ3_checkIndex_8e157) B.pre
  have hown : s.vm.findClass RJ3 = some m.cls := findClass_of_methodNamed B.named
  have hlocks := B.notSynchronized
  have hl := lv_entry ([.int k, .int n, .null]) (n := 3) (Nat.le_of_ble_eq_true rfl)
  rw [lg_entry_eq]
  generalize (lg_sl ([.int k, .int n, .null]) ++ List.replicate (3 - (lg_sl ([.int k, .int n, .null])).length) Slot.unset).toArray = ls at hl ⊢
  replace hl : lv_has ls 3 [(0, .int k), (1, .int n), (2, .null)] := hl
  refine lv_iload_n hx hb dJ3_checkIndex_8e157_0 rfl (lv_at hl 0 rfl) ?_
  refine lv_if_lt (tgt := 9) hx hb dJ3_checkIndex_8e157_1 (by decide) (fun c_1 => ?_) (fun c_1 => ?_)
  · exfalso; have fc_1 : k.toInt < 0 := zf_lt c_1 rfl (by decide); omega
  · have fc_1 : 0 ≤ k.toInt := zf_nlt c_1 rfl (by decide)
    refine lv_iload_n hx hb dJ3_checkIndex_8e157_4 rfl (lv_at hl 0 rfl) ?_
    refine lv_iload_n hx hb dJ3_checkIndex_8e157_5 rfl (lv_at hl 1 rfl) ?_
    refine lv_icmp_lt (tgt := 16) hx hb dJ3_checkIndex_8e157_6 (by decide) (fun c_2 => ?_) (fun c_2 => ?_)
    · have fc_2 : k.toInt < n.toInt := zf_lt c_2 rfl rfl
      refine lv_iload_n hx hb dJ3_checkIndex_8e157_16 rfl (lv_at hl 0 rfl) ?_
      exact W.iret (v := k) hx hb hr (fun t ht hW => ⟨k, rfl, rfl, ht⟩) (fun q hq => by cases hq) dJ3_checkIndex_8e157_17
    · exfalso; have fc_2 : n.toInt ≤ k.toInt := zf_nlt c_2 rfl rfl; omega
set_option maxHeartbeats 4000000 in
set_option maxRecDepth 100000 in
theorem c_S_chk3_1 (l : Launch) (D : va_G) (cI cJ cZ cP cS : ClassId) (po : zPool) (k n : Int32) (o : Nat) (hy0 : 0 ≤ k.toInt) (hy1 : k.toInt < n.toInt) : Met l yJ3_checkIndex_8e157 wsJ3_checkIndex_8e157 ({ frames := 0, cells := 0, slots := 0, locals := 0 }) (va_Pc [.int k, .int n, .ref o] (zR D (zKT cI cJ cZ cP cS) po [])) (vp_Si (fun r => r = k)) 0 0 (fun _ => False) := by
  refine Met.ofW (cc := cJ3_checkIndex_8e157) (maxL := 3) (ret := (some .int)) (by decide) rfl ?_
  intro p e s m args below meth c s₁ B hml hv
  obtain ⟨rfl, hP, hK, hN, hZ⟩ := hv
  have hx := B.exec
  have hb := B.bytes
  have hr := B.returns
  have hts := atoms_spec (ws := wsJ3_checkIndex_8e157) B.pre
  have hown : s.vm.findClass RJ3 = some m.cls := findClass_of_methodNamed B.named
  have hlocks := B.notSynchronized
  have hl := lv_entry ([.int k, .int n, .ref o]) (n := 3) (Nat.le_of_ble_eq_true rfl)
  rw [lg_entry_eq]
  generalize (lg_sl ([.int k, .int n, .ref o]) ++ List.replicate (3 - (lg_sl ([.int k, .int n, .ref o])).length) Slot.unset).toArray = ls at hl ⊢
  replace hl : lv_has ls 3 [(0, .int k), (1, .int n), (2, .ref o)] := hl
  refine lv_iload_n hx hb dJ3_checkIndex_8e157_0 rfl (lv_at hl 0 rfl) ?_
  refine lv_if_lt (tgt := 9) hx hb dJ3_checkIndex_8e157_1 (by decide) (fun c_1 => ?_) (fun c_1 => ?_)
  · exfalso; have fc_1 : k.toInt < 0 := zf_lt c_1 rfl (by decide); omega
  · have fc_1 : 0 ≤ k.toInt := zf_nlt c_1 rfl (by decide)
    refine lv_iload_n hx hb dJ3_checkIndex_8e157_4 rfl (lv_at hl 0 rfl) ?_
    refine lv_iload_n hx hb dJ3_checkIndex_8e157_5 rfl (lv_at hl 1 rfl) ?_
    refine lv_icmp_lt (tgt := 16) hx hb dJ3_checkIndex_8e157_6 (by decide) (fun c_2 => ?_) (fun c_2 => ?_)
    · have fc_2 : k.toInt < n.toInt := zf_lt c_2 rfl rfl
      refine lv_iload_n hx hb dJ3_checkIndex_8e157_16 rfl (lv_at hl 0 rfl) ?_
      exact W.iret (v := k) hx hb hr (fun t ht hW => ⟨k, rfl, rfl, ht⟩) (fun q hq => by cases hq) dJ3_checkIndex_8e157_17
    · exfalso; have fc_2 : n.toInt ≤ k.toInt := zf_nlt c_2 rfl rfl; omega
set_option maxHeartbeats 4000000 in
set_option maxRecDepth 100000 in
theorem c_S_chk (l : Launch) (D : va_G) (cI cJ cZ cP cS : ClassId) (po : zPool) (k n : Int32) (hy0 : 0 ≤ k.toInt) (hy1 : k.toInt < n.toInt) (hpz : Nat) : Met l yJ0_checkIndex_df160 wsJ0_checkIndex_df160 ({ frames := 1, cells := 0, slots := 0, locals := 22 }) (va_Pc [.int k, .int n] (zW D (zKT cI cJ cZ cP cS) po [] hpz)) (va_Qv (fun (_ : Unit) => True) (zB D [] hpz (fun (_ : Unit) => [])) (va_A [] hpz)) 0 0 (va_A [] hpz) := by
  refine Met.ofW (cc := cJ0_checkIndex_df160) (maxL := 2) (ret := none) (by decide) rfl ?_
  intro p e s m args below meth c s₁ B hml hv
  obtain ⟨rfl, hsz, hP, hK, hD0, hN, hZ⟩ := hv
  have hx := B.exec
  have hb := B.bytes
  have hr := B.returns
  have hts := atoms_spec (ws := wsJ0_checkIndex_df160) B.pre
  have hown : s.vm.findClass RJ0 = some m.cls := findClass_of_methodNamed B.named
  have hlocks := B.notSynchronized
  subst hsz
  have hD := hD0.self (sz := s.heap.size)
  have hA := zA_of hD
  have hl := lv_entry ([.int k, .int n]) (n := 2) (Nat.le_of_ble_eq_true rfl)
  rw [lg_entry_eq]
  generalize (lg_sl ([.int k, .int n]) ++ List.replicate (2 - (lg_sl ([.int k, .int n])).length) Slot.unset).toArray = ls at hl ⊢
  replace hl : lv_has ls 2 [(0, .int k), (1, .int n)] := hl
  refine zw_begin hP hD (fun H locs hP1 hS => ?_)
  clear hP
  have hP := hP1
  clear hP1
  refine lv_iload_n hx hb dJ0_checkIndex_df160_0 rfl (lv_at hl 0 rfl) ?_
  refine lv_iload_n hx hb dJ0_checkIndex_df160_1 rfl (lv_at hl 1 rfl) ?_
  rcases hZ.2.2.2.2.2 with ho_1 | ⟨o_1, ho_1⟩
  · refine va_gets hx hb ho_1 hS hown (hts (.fieldLink RJ0 1053 "jdk/internal/util/Preconditions" "SIOOBE_FORMATTER" "Ljava/util/function/BiFunction;") (List.mem_of_getElem? (i := 1) rfl)) (fun _ h9 => h9) dJ0_checkIndex_df160_2 ?_
    refine zc_S (As := [.int k, .int n, .null]) (rest := []) ⟨hx, hb, hml, hown, hts⟩ (c_S_chk3_0 l D cI cJ cZ cP cS po (k) (n) hy0 (by omega)) (va_cwS 3 hts gJ0_checkIndex_df160_J3_checkIndex_8e157 rfl rfl rfl dh_J3_checkIndex_8e157 ⟨Nat.le_of_ble_eq_true rfl, Nat.le_of_ble_eq_true rfl⟩) hK hN (hZ.kept hS) rfl hl.1 rfl (Nat.le_of_ble_eq_true rfl) dJ0_checkIndex_df160_5 ⟨Nat.le_of_ble_eq_true rfl, Nat.le_of_ble_eq_true rfl⟩ (fun r_2 hr_2 => ?_)
    have w_3 := hr_2
    obtain rfl : k = r_2 := w_3.symm
    refine lv_pop hx hb dJ0_checkIndex_df160_8 rfl ?_
    exact W.vret hx hb hr (fun t ht hW => ⟨⟨(), rfl, trivial, zRet (wq := fun _ : Unit => []) (u := ()) ht hP hD [] (by decide) rfl⟩, hS.F ht⟩) hS.2.2 dJ0_checkIndex_df160_9
  · refine va_gets hx hb ho_1 hS hown (hts (.fieldLink RJ0 1053 "jdk/internal/util/Preconditions" "SIOOBE_FORMATTER" "Ljava/util/function/BiFunction;") (List.mem_of_getElem? (i := 1) rfl)) (fun _ h9 => h9) dJ0_checkIndex_df160_2 ?_
    refine zc_S (As := [.int k, .int n, .ref o_1]) (rest := []) ⟨hx, hb, hml, hown, hts⟩ (c_S_chk3_1 l D cI cJ cZ cP cS po (k) (n) o_1 hy0 (by omega)) (va_cwS 3 hts gJ0_checkIndex_df160_J3_checkIndex_8e157 rfl rfl rfl dh_J3_checkIndex_8e157 ⟨Nat.le_of_ble_eq_true rfl, Nat.le_of_ble_eq_true rfl⟩) hK hN (hZ.kept hS) rfl hl.1 rfl (Nat.le_of_ble_eq_true rfl) dJ0_checkIndex_df160_5 ⟨Nat.le_of_ble_eq_true rfl, Nat.le_of_ble_eq_true rfl⟩ (fun r_4 hr_4 => ?_)
    have w_5 := hr_4
    obtain rfl : k = r_4 := w_5.symm
    refine lv_pop hx hb dJ0_checkIndex_df160_8 rfl ?_
    exact W.vret hx hb hr (fun t ht hW => ⟨⟨(), rfl, trivial, zRet (wq := fun _ : Unit => []) (u := ()) ht hP hD [] (by decide) rfl⟩, hS.F ht⟩) hS.2.2 dJ0_checkIndex_df160_9
set_option maxHeartbeats 4000000 in
set_option maxRecDepth 100000 in
theorem c_S_char1 (l : Launch) (D : va_G) (cI cJ cZ cP cS : ClassId) (po : zPool) (i : Nat) (k : Int32) (hi : i < 10) (hk : 0 ≤ k.toInt ∧ k.toInt < (zLen.getD i 0 : Nat)) (hpz : Nat) : Met l yJ1_charAt_3b067 wsJ1_charAt_3b067 ({ frames := 2, cells := 0, slots := 0, locals := 43 }) (va_Pc [.ref (po.2.2 i), .int k] (zW D (zKT cI cJ cZ cP cS) po [] hpz)) (va_Qi (fun (r : Int32) (_ : Unit) => (r = (zByt.getD i []).getD k.toNatClampNeg 0) ∧ (True)) (zB D [] hpz (fun (_ : Unit) => [])) (va_A [] hpz)) 0 0 (va_A [] hpz) := by
  refine Met.ofW (cc := cJ1_charAt_3b067) (maxL := 2) (ret := (some .char)) (by decide) rfl ?_
  intro p e s m args below meth c s₁ B hml hv
  obtain ⟨rfl, hsz, hP, hK, hD0, hN, hZ⟩ := hv
  have hx := B.exec
  have hb := B.bytes
  have hr := B.returns
  have hts := atoms_spec (ws := wsJ1_charAt_3b067) B.pre
  have hown : s.vm.findClass RJ1 = some m.cls := findClass_of_methodNamed B.named
  have hlocks := B.notSynchronized
  subst hsz
  have hD := hD0.self (sz := s.heap.size)
  have hA := zA_of hD
  have hl := lv_entry ([.ref (po.2.2 i), .int k]) (n := 2) (Nat.le_of_ble_eq_true rfl)
  rw [lg_entry_eq]
  generalize (lg_sl ([.ref (po.2.2 i), .int k]) ++ List.replicate (2 - (lg_sl ([.ref (po.2.2 i), .int k])).length) Slot.unset).toArray = ls at hl ⊢
  replace hl : lv_has ls 2 [(0, .ref (po.2.2 i)), (1, .int k)] := hl
  refine zw_begin hP hD (fun H locs hP1 hS => ?_)
  clear hP
  have hP := hP1
  clear hP1
  refine lv_iload_n hx hb dJ1_charAt_3b067_0 rfl (lv_at hl 1 rfl) ?_
  refine lv_aload_n hx hb dJ1_charAt_3b067_1 rfl (lv_at hl 0 rfl) ?_
  refine va_tlen hx hb (hZ.2.2.1.1 i hi).2.2.2 hS rfl dJ1_charAt_3b067_2 ?_
  refine lv_topi (fun x_1 ex_1 => ?_)
  have bx_1 : x_1.toInt = (zLen.getD i 0 : Nat) ∧ 2 ≤ x_1.toInt ∧ x_1.toInt ≤ 7 := by rw [ex_1]; exact zs_len i hi
  skip
  refine zw_Sv (As := [.int k, .int x_1]) (rest := []) (wr := []) ⟨hx, hb, hml, hown, hts⟩ (c_S_chk l D cI cJ cZ cP cS po (k) (x_1) (by omega) (by omega) H.size) (va_cwS 2 hts gJ1_charAt_3b067_J0_checkIndex_df160 rfl rfl rfl dh_J0_checkIndex_df160 ⟨Nat.le_of_ble_eq_true rfl, Nat.le_of_ble_eq_true rfl⟩) hK hN (hZ.kept hS) hP hD hS hA [] [] rfl rfl (by decide) (by decide) (by decide) rfl hl.1 rfl (Nat.le_of_ble_eq_true rfl) dJ1_charAt_3b067_3 ⟨Nat.le_of_ble_eq_true rfl, Nat.le_of_ble_eq_true rfl⟩ (fun u_3 H locs hr_2 hP hD hS => ?_)
  have h9R := zRe (ws' := []) hP hD rfl
  clear hP hD
  obtain ⟨hP, hD⟩ := h9R
  refine lv_aload_n hx hb dJ1_charAt_3b067_6 rfl (lv_at hl 0 rfl) ?_
  refine lv_iload_n hx hb dJ1_charAt_3b067_7 rfl (lv_at hl 1 rfl) ?_
  refine va_tb hx hb (hZ.2.2.1.1 i hi).2.2.2 hS (zf_in (by omega) (by omega)) rfl dJ1_charAt_3b067_8 ?_
  refine lv_topi (fun x_4 ex_4 => ?_)
  refine lv_sipush (v := 255) hx hb dJ1_charAt_3b067_9 (by decide) ?_
  refine lv_iand hx hb dJ1_charAt_3b067_12 ?_
  refine lv_topi (fun x_5 ex_5 => ?_)
  refine lv_i2c hx hb dJ1_charAt_3b067_13 rfl ?_
  refine lv_topi (fun x_6 ex_6 => ?_)
  exact W.zret (v := x_6) hx hb hr (by rw [ex_6, ex_5, ex_4, (zs_chr i k.toNatClampNeg hi (by have h1 : k.toNatClampNeg = k.toInt.toNat := rfl; omega)).1]; exact (zs_chr i k.toNatClampNeg hi (by have h1 : k.toNatClampNeg = k.toInt.toNat := rfl; omega)).2) (fun t ht hW => ⟨⟨x_6, (), rfl, ⟨(show (x_6 : Int32) = (zByt.getD i []).getD k.toNatClampNeg 0 from by rw [ex_6, ex_5, ex_4]; exact (zs_chr i k.toNatClampNeg hi (by have h1 : k.toNatClampNeg = k.toInt.toNat := rfl; omega)).1), trivial⟩, zRet (wq := fun _ : Unit => []) (u := ()) ht hP hD [] (by decide) rfl⟩, hS.F ht⟩) hS.2.2 dJ1_charAt_3b067_14
set_option maxHeartbeats 4000000 in
set_option maxRecDepth 100000 in
theorem c_S_charAt (l : Launch) (D : va_G) (cI cJ cZ cP cS : ClassId) (po : zPool) (i : Nat) (k : Int32) (hi : i < 10) (hk : 0 ≤ k.toInt ∧ k.toInt < (zLen.getD i 0 : Nat)) (hpz : Nat) : Met l yJ0_charAt_5068e wsJ0_charAt_5068e ({ frames := 3, cells := 0, slots := 0, locals := 64 }) (va_Pc [.ref (po.2.1 i), .int k] (zW D (zKT cI cJ cZ cP cS) po [] hpz)) (va_Qi (fun (r : Int32) (_ : Unit) => (r = (zByt.getD i []).getD k.toNatClampNeg 0) ∧ (True)) (zB D [] hpz (fun (_ : Unit) => [])) (va_A [] hpz)) 0 0 (va_A [] hpz) := by
  refine Met.ofW (cc := cJ0_charAt_5068e) (maxL := 2) (ret := (some .char)) (by decide) rfl ?_
  intro p e s m args below meth c s₁ B hml hv
  obtain ⟨rfl, hsz, hP, hK, hD0, hN, hZ⟩ := hv
  have hx := B.exec
  have hb := B.bytes
  have hr := B.returns
  have hts := atoms_spec (ws := wsJ0_charAt_5068e) B.pre
  have hown : s.vm.findClass RJ0 = some m.cls := findClass_of_methodNamed B.named
  have hlocks := B.notSynchronized
  subst hsz
  have hD := hD0.self (sz := s.heap.size)
  have hA := zA_of hD
  have hl := lv_entry ([.ref (po.2.1 i), .int k]) (n := 2) (Nat.le_of_ble_eq_true rfl)
  rw [lg_entry_eq]
  generalize (lg_sl ([.ref (po.2.1 i), .int k]) ++ List.replicate (2 - (lg_sl ([.ref (po.2.1 i), .int k])).length) Slot.unset).toArray = ls at hl ⊢
  replace hl : lv_has ls 2 [(0, .ref (po.2.1 i)), (1, .int k)] := hl
  refine zw_begin hP hD (fun H locs hP1 hS => ?_)
  clear hP
  have hP := hP1
  clear hP1
  refine lv_aload_n hx hb dJ0_charAt_5068e_0 rfl (lv_at hl 0 rfl) ?_
  refine zc_V (As := []) (rest := []) ⟨hx, hb, hml, hown, hts⟩ (c_S_isLatin l D cI cJ cZ cP cS po i hi) (cwV 0 hts gJ0_charAt_5068e_J0_isLatin1_aae02 rfl rfl rfl ⟨rfl, dh_J0_isLatin1_aae02⟩ ⟨Nat.le_of_ble_eq_true rfl, Nat.le_of_ble_eq_true rfl⟩) hK hN (hZ.kept hS) hP zP_nil (vk_recv hZ.2.2.1 hi hS) rfl hl.1 rfl (Nat.le_of_ble_eq_true rfl) dJ0_charAt_5068e_1 ⟨Nat.le_of_ble_eq_true rfl, Nat.le_of_ble_eq_true rfl⟩ (fun r_1 hr_1 => ?_)
  obtain rfl := hr_1
  refine lv_if_eq (tgt := 16) hx hb dJ0_charAt_5068e_4 (by decide) (fun c_2 => ?_) (fun c_2 => ?_)
  · exact absurd c_2 (by decide)
  · refine lv_aload_n hx hb dJ0_charAt_5068e_7 rfl (lv_at hl 0 rfl) ?_
    refine vk_getf hx hb (hZ.2.2.1.1 i hi).2.2.1 hS hown (hts (.fieldLink RJ0 9 "java/lang/String" "value" "[B") (List.mem_of_getElem? (i := 1) rfl)) (fun _ h9 => h9) dJ0_charAt_5068e_8 ?_
    refine lv_iload_n hx hb dJ0_charAt_5068e_11 rfl (lv_at hl 1 rfl) ?_
    skip
    refine zw_Si (As := [.ref (po.2.2 i), .int k]) (rest := []) (wr := []) ⟨hx, hb, hml, hown, hts⟩ (c_S_char1 l D cI cJ cZ cP cS po i (k) hi (by first | assumption | omega) H.size) (va_cwS 2 hts gJ0_charAt_5068e_J1_charAt_3b067 rfl rfl rfl dh_J1_charAt_3b067 ⟨Nat.le_of_ble_eq_true rfl, Nat.le_of_ble_eq_true rfl⟩) hK hN (hZ.kept hS) hP hD hS hA [] [] rfl rfl (by decide) (by decide) (by decide) rfl hl.1 rfl (Nat.le_of_ble_eq_true rfl) dJ0_charAt_5068e_12 ⟨Nat.le_of_ble_eq_true rfl, Nat.le_of_ble_eq_true rfl⟩ (fun r_3 u_4 H locs hr_3 hP hD hS => ?_)
    obtain ⟨hsr_3_0, hr_3⟩ := hr_3
    have h9R := zRe (ws' := []) hP hD rfl
    clear hP hD
    obtain ⟨hP, hD⟩ := h9R
    exact W.zret (v := r_3) hx hb hr (by rw [hsr_3_0]; exact (zs_chr i k.toNatClampNeg hi (by have h1 : k.toNatClampNeg = k.toInt.toNat := rfl; omega)).2) (fun t ht hW => ⟨⟨r_3, (), rfl, ⟨(show (r_3 : Int32) = (zByt.getD i []).getD k.toNatClampNeg 0 from by first | assumption | omega), trivial⟩, zRet (wq := fun _ : Unit => []) (u := ()) ht hP hD [] (by decide) rfl⟩, hS.F ht⟩) hS.2.2 dJ0_charAt_5068e_15
end
section
theorem gl_X3_stands_X30 : GoodIn wsX3_stands wsX30 := (dg_t (dg_t (dg_t gw_wsX30)))
theorem hi_X3_stands_3 : ∀ w ∈ u_ws RX3 TX3 8, w ∈ wsX3_stands := fun w h => (gl_X3_stands_X30 w h).1
set_option maxHeartbeats 4000000 in
set_option maxRecDepth 100000 in
theorem c_R_stands (l : Launch) (D : va_G) (cI cJ cZ cP cS : ClassId) (po : zPool) (rd ri rl : Nat) (rz rc rp rf rt ru : Int32) (fl : Nat → Int32) (i ch : Int32) (hy0 : 0 ≤ rz.toInt) (hy1 : rz.toInt ≤ 160) (hy2 : 0 ≤ rc.toInt) (hy3 : rc.toInt ≤ 40) (hy4 : 0 ≤ rp.toInt) (hy5 : rp.toInt ≤ 160) (hy6 : rp.toInt ≤ rz.toInt) (hy7 : (-1) ≤ rf.toInt) (hy8 : rf.toInt ≤ 160) (hy9 : 0 ≤ rt.toInt) (hy10 : rt.toInt ≤ 40) (hy11 : 0 ≤ ru.toInt) (hy12 : ru.toInt ≤ 8) : Met l yX3_stands wsX3_stands ({ frames := 0, cells := 0, slots := 0, locals := 0 }) (va_Pc [.ref rd, .int i, .int ch] (zR D (zKT cI cJ cZ cP cS) po [(rd, .inr (3, [.ref ri, .ref rl, .int rz, .int rc, .int rp, .int rf, .int rt, .int ru])), (rl, .inl (cI, 160, .inl fl))])) (vp_Si (fun r => 0 ≤ r.toInt ∧ r.toInt ≤ 1 ∧ ((r.toInt = 1 → 0 ≤ i.toInt ∧ i.toInt < rz.toInt)) ∧ ((r = 1 ↔ (0 ≤ i.toInt ∧ i.toInt < rz.toInt ∧ fl i.toNatClampNeg = ch))))) 0 0 (fun _ => False) := by
  refine Met.ofW (cc := cX3_stands) (maxL := 3) (ret := (some .boolean)) (by decide) rfl ?_
  intro p e s m args below meth c s₁ B hml hv
  obtain ⟨rfl, hP, hK, hN, hZ⟩ := hv
  have hx := B.exec
  have hb := B.bytes
  have hr := B.returns
  have hts := atoms_spec (ws := wsX3_stands) B.pre
  have hown : s.vm.findClass RX3 = some m.cls := findClass_of_methodNamed B.named
  have hlocks := B.notSynchronized
  have hl := lv_entry ([.ref rd, .int i, .int ch]) (n := 3) (Nat.le_of_ble_eq_true rfl)
  rw [lg_entry_eq]
  generalize (lg_sl ([.ref rd, .int i, .int ch]) ++ List.replicate (3 - (lg_sl ([.ref rd, .int i, .int ch])).length) Slot.unset).toArray = ls at hl ⊢
  replace hl : lv_has ls 3 [(0, .ref rd), (1, .int i), (2, .int ch)] := hl
  refine lv_iload_n hx hb dX3_stands_0 rfl (lv_at hl 1 rfl) ?_
  refine lv_if_lt (tgt := 26) hx hb dX3_stands_1 (by decide) (fun c_1 => ?_) (fun c_1 => ?_)
  · have fc_1 : i.toInt < 0 := zf_lt c_1 rfl (by decide)
    refine lv_iconst (v := 0) hx hb dX3_stands_26 (by decide) ?_
    exact W.zret (v := 0) hx hb hr (by decide) (fun t ht hW => ⟨0, rfl, ⟨by decide, by decide, (show ((0 : Int32).toInt = 1 → 0 ≤ i.toInt ∧ i.toInt < rz.toInt) from by first | omega | exact fun h => absurd h (by decide)), (show ((0 : Int32) = 1 ↔ (0 ≤ i.toInt ∧ i.toInt < rz.toInt ∧ fl i.toNatClampNeg = ch)) from by exact ⟨fun h => absurd h (by decide), fun h => by have h1 := h.1; have h2 := h.2.1; omega⟩)⟩, ht⟩) (fun q hq => by cases hq) dX3_stands_27
  · have fc_1 : 0 ≤ i.toInt := zf_nlt c_1 rfl (by decide)
    refine lv_iload_n hx hb dX3_stands_4 rfl (lv_at hl 1 rfl) ?_
    refine lv_aload_n hx hb dX3_stands_5 rfl (lv_at hl 0 rfl) ?_
    refine va_get (D := D) (ci := 3) (v := .int rz) (C := RX3) (T := TX3) (N := 8) hx hb hts hi_X3_stands_3 hown hK hP 0 rfl rfl 2 (by decide) (hts (.fieldLink RX3 18 "TheLiningsInIt$Reader" "size" "I") (List.mem_of_getElem? (i := 1) rfl)) (fun _ h9 => h9) rfl dX3_stands_6 ?_
    refine lv_icmp_ge (tgt := 26) hx hb dX3_stands_9 (by decide) (fun c_2 => ?_) (fun c_2 => ?_)
    · have fc_2 : rz.toInt ≤ i.toInt := zf_le c_2 rfl rfl
      refine lv_iconst (v := 0) hx hb dX3_stands_26 (by decide) ?_
      exact W.zret (v := 0) hx hb hr (by decide) (fun t ht hW => ⟨0, rfl, ⟨by decide, by decide, (show ((0 : Int32).toInt = 1 → 0 ≤ i.toInt ∧ i.toInt < rz.toInt) from by first | omega | exact fun h => absurd h (by decide)), (show ((0 : Int32) = 1 ↔ (0 ≤ i.toInt ∧ i.toInt < rz.toInt ∧ fl i.toNatClampNeg = ch)) from by exact ⟨fun h => absurd h (by decide), fun h => by have h1 := h.1; have h2 := h.2.1; omega⟩)⟩, ht⟩) (fun q hq => by cases hq) dX3_stands_27
    · have fc_2 : i.toInt < rz.toInt := zf_nle c_2 rfl rfl
      refine lv_aload_n hx hb dX3_stands_12 rfl (lv_at hl 0 rfl) ?_
      refine va_get (D := D) (ci := 3) (v := .ref rl) (C := RX3) (T := TX3) (N := 8) hx hb hts hi_X3_stands_3 hown hK hP 0 rfl rfl 1 (by decide) (hts (.fieldLink RX3 15 "TheLiningsInIt$Reader" "letters" "[I") (List.mem_of_getElem? (i := 2) rfl)) (fun _ h9 => h9) rfl dX3_stands_13 ?_
      refine lv_iload_n hx hb dX3_stands_16 rfl (lv_at hl 1 rfl) ?_
      refine va_iald hx hb hK hP 1 0 rfl rfl (zf_in (by omega) (by omega)) dX3_stands_17 ?_
      refine lv_topi (fun x_3 ex_3 => ?_)
      refine lv_iload_n hx hb dX3_stands_18 rfl (lv_at hl 2 rfl) ?_
      refine lv_icmp_ne (tgt := 26) hx hb dX3_stands_19 (by decide) (fun c_4 => ?_) (fun c_4 => ?_)
      · have fc_4 : x_3.toInt ≠ ch.toInt := zf_ne c_4 rfl rfl
        refine lv_iconst (v := 0) hx hb dX3_stands_26 (by decide) ?_
        exact W.zret (v := 0) hx hb hr (by decide) (fun t ht hW => ⟨0, rfl, ⟨by decide, by decide, (show ((0 : Int32).toInt = 1 → 0 ≤ i.toInt ∧ i.toInt < rz.toInt) from by first | omega | exact fun h => absurd h (by decide)), (show ((0 : Int32) = 1 ↔ (0 ≤ i.toInt ∧ i.toInt < rz.toInt ∧ fl i.toNatClampNeg = ch)) from by exact ⟨fun h => absurd h (by decide), fun h => absurd (ex_3.trans h.2.2) c_4⟩)⟩, ht⟩) (fun q hq => by cases hq) dX3_stands_27
      · have fc_4 : x_3.toInt = ch.toInt := zf_eq c_4 rfl rfl
        refine lv_iconst (v := 1) hx hb dX3_stands_22 (by decide) ?_
        refine lv_goto (tgt := 27) hx hb dX3_stands_23 (by decide) ?_
        exact W.zret (v := 1) hx hb hr (by decide) (fun t ht hW => ⟨1, rfl, ⟨by decide, by decide, (show ((1 : Int32).toInt = 1 → 0 ≤ i.toInt ∧ i.toInt < rz.toInt) from by first | omega | exact fun h => absurd h (by decide)), (show ((1 : Int32) = 1 ↔ (0 ≤ i.toInt ∧ i.toInt < rz.toInt ∧ fl i.toNatClampNeg = ch)) from by exact ⟨fun _ => ⟨by omega, by omega, ex_3.symm.trans (by first | exact c_4 | exact Decidable.not_not.mp c_4)⟩, fun _ => rfl⟩)⟩, ht⟩) (fun q hq => by cases hq) dX3_stands_27
theorem hi_X3_expect_3 : ∀ w ∈ u_ws RX3 TX3 8, w ∈ wsX3_expect := fun w h => (gl_X3_expect_X30 w h).1
theorem hi_X3_lettersStanding_3 : ∀ w ∈ u_ws RX3 TX3 8, w ∈ wsX3_lettersStanding := fun w h => (gl_X3_lettersStanding_X30 w h).1
theorem gl_X3_takeWord_X30 : GoodIn wsX3_takeWord wsX30 := (dg_t (dg_t (dg_t (dg_t gw_wsX30))))
theorem hi_X3_takeWord_3 : ∀ w ∈ u_ws RX3 TX3 8, w ∈ wsX3_takeWord := fun w h => (gl_X3_takeWord_X30 w h).1
set_option maxHeartbeats 4000000 in
set_option maxRecDepth 100000 in
theorem c_R_wordAt (l : Launch) (D : va_G) (cI cJ cZ cP cS : ClassId) (po : zPool) (w : Int32) (hy0 : 0 ≤ w.toInt) (hy1 : w.toInt ≤ 9) : Met l yX3_wordAt wsX3_wordAt ({ frames := 0, cells := 0, slots := 0, locals := 0 }) (va_Pc [.int w] (zR D (zKT cI cJ cZ cP cS) po [])) (va_Sq (fun r => (∃ i : Nat, i < 10 ∧ (i : Int) = w.toInt ∧ r = some (po.2.1 i)))) 0 0 (fun _ => False) := by
  refine Met.ofW (cc := cX3_wordAt) (maxL := 1) (ret := (some (.object "java/lang/String"))) (by decide) rfl ?_
  intro p e s m args below meth c s₁ B hml hv
  obtain ⟨rfl, hP, hK, hN, hZ⟩ := hv
  have hx := B.exec
  have hb := B.bytes
  have hr := B.returns
  have hts := atoms_spec (ws := wsX3_wordAt) B.pre
  have hown : s.vm.findClass RX3 = some m.cls := findClass_of_methodNamed B.named
  have hlocks := B.notSynchronized
  have hl := lv_entry ([.int w]) (n := 1) (Nat.le_of_ble_eq_true rfl)
  rw [lg_entry_eq]
  generalize (lg_sl ([.int w]) ++ List.replicate (1 - (lg_sl ([.int w])).length) Slot.unset).toArray = ls at hl ⊢
  replace hl : lv_has ls 1 [(0, .int w)] := hl
  refine lv_iload_n hx hb dX3_wordAt_0 rfl (lv_at hl 0 rfl) ?_
  have hsp : w = 0 ∨ w = 1 ∨ w = 2 ∨ w = 3 ∨ w = 4 ∨ w = 5 ∨ w = 6 ∨ w = 7 ∨ w = 8 ∨ w = 9 := by
    rcases (show w.toInt = 0 ∨ w.toInt = 1 ∨ w.toInt = 2 ∨ w.toInt = 3 ∨ w.toInt = 4 ∨ w.toInt = 5 ∨ w.toInt = 6 ∨ w.toInt = 7 ∨ w.toInt = 8 ∨ w.toInt = 9 by omega) with h9 | h9 | h9 | h9 | h9 | h9 | h9 | h9 | h9 | h9
    · refine Or.inl ?_; exact zf_val h9 (by decide)
    · refine Or.inr (Or.inl ?_); exact zf_val h9 (by decide)
    · refine Or.inr (Or.inr (Or.inl ?_)); exact zf_val h9 (by decide)
    · refine Or.inr (Or.inr (Or.inr (Or.inl ?_))); exact zf_val h9 (by decide)
    · refine Or.inr (Or.inr (Or.inr (Or.inr (Or.inl ?_)))); exact zf_val h9 (by decide)
    · refine Or.inr (Or.inr (Or.inr (Or.inr (Or.inr (Or.inl ?_))))); exact zf_val h9 (by decide)
    · refine Or.inr (Or.inr (Or.inr (Or.inr (Or.inr (Or.inr (Or.inl ?_)))))); exact zf_val h9 (by decide)
    · refine Or.inr (Or.inr (Or.inr (Or.inr (Or.inr (Or.inr (Or.inr (Or.inl ?_))))))); exact zf_val h9 (by decide)
    · refine Or.inr (Or.inr (Or.inr (Or.inr (Or.inr (Or.inr (Or.inr (Or.inr (Or.inl ?_)))))))); exact zf_val h9 (by decide)
    · refine Or.inr (Or.inr (Or.inr (Or.inr (Or.inr (Or.inr (Or.inr (Or.inr (Or.inr (?_))))))))); exact zf_val h9 (by decide)
  rcases hsp with rfl | rfl | rfl | rfl | rfl | rfl | rfl | rfl | rfl | rfl
  · have kc0 : (0 : Int32).toInt = 0 := by decide
    refine lv_tableIn (tgt := 52) hx hb dX3_wordAt_1 (by decide) (by decide) rfl (by decide) ?_
    refine va_ldcS (own := RX3) (index := 113) hx hb hown (hZ.2.2.2.1 0 (by decide)) dX3_wordAt_52 ?_
    exact W.aret (v := .ref (po.2.1 0)) hx hb hr (Or.inl ⟨_, rfl⟩) (Or.inr ⟨_, rfl⟩) (fun t ht hW => ⟨some (po.2.1 0), rfl, ⟨0, by decide, by decide, rfl⟩, ht⟩) (fun q hq => by cases hq) dX3_wordAt_54
  · have kc1 : (1 : Int32).toInt = 1 := by decide
    refine lv_tableIn (tgt := 55) hx hb dX3_wordAt_1 (by decide) (by decide) rfl (by decide) ?_
    refine va_ldcS (own := RX3) (index := 114) hx hb hown (hZ.2.2.2.1 1 (by decide)) dX3_wordAt_55 ?_
    exact W.aret (v := .ref (po.2.1 1)) hx hb hr (Or.inl ⟨_, rfl⟩) (Or.inr ⟨_, rfl⟩) (fun t ht hW => ⟨some (po.2.1 1), rfl, ⟨1, by decide, by decide, rfl⟩, ht⟩) (fun q hq => by cases hq) dX3_wordAt_57
  · have kc2 : (2 : Int32).toInt = 2 := by decide
    refine lv_tableIn (tgt := 58) hx hb dX3_wordAt_1 (by decide) (by decide) rfl (by decide) ?_
    refine va_ldcS (own := RX3) (index := 116) hx hb hown (hZ.2.2.2.1 2 (by decide)) dX3_wordAt_58 ?_
    exact W.aret (v := .ref (po.2.1 2)) hx hb hr (Or.inl ⟨_, rfl⟩) (Or.inr ⟨_, rfl⟩) (fun t ht hW => ⟨some (po.2.1 2), rfl, ⟨2, by decide, by decide, rfl⟩, ht⟩) (fun q hq => by cases hq) dX3_wordAt_60
  · have kc3 : (3 : Int32).toInt = 3 := by decide
    refine lv_tableIn (tgt := 61) hx hb dX3_wordAt_1 (by decide) (by decide) rfl (by decide) ?_
    refine va_ldcS (own := RX3) (index := 118) hx hb hown (hZ.2.2.2.1 3 (by decide)) dX3_wordAt_61 ?_
    exact W.aret (v := .ref (po.2.1 3)) hx hb hr (Or.inl ⟨_, rfl⟩) (Or.inr ⟨_, rfl⟩) (fun t ht hW => ⟨some (po.2.1 3), rfl, ⟨3, by decide, by decide, rfl⟩, ht⟩) (fun q hq => by cases hq) dX3_wordAt_63
  · have kc4 : (4 : Int32).toInt = 4 := by decide
    refine lv_tableIn (tgt := 64) hx hb dX3_wordAt_1 (by decide) (by decide) rfl (by decide) ?_
    refine va_ldcS (own := RX3) (index := 120) hx hb hown (hZ.2.2.2.1 4 (by decide)) dX3_wordAt_64 ?_
    exact W.aret (v := .ref (po.2.1 4)) hx hb hr (Or.inl ⟨_, rfl⟩) (Or.inr ⟨_, rfl⟩) (fun t ht hW => ⟨some (po.2.1 4), rfl, ⟨4, by decide, by decide, rfl⟩, ht⟩) (fun q hq => by cases hq) dX3_wordAt_66
  · have kc5 : (5 : Int32).toInt = 5 := by decide
    refine lv_tableIn (tgt := 67) hx hb dX3_wordAt_1 (by decide) (by decide) rfl (by decide) ?_
    refine va_ldcS (own := RX3) (index := 122) hx hb hown (hZ.2.2.2.1 5 (by decide)) dX3_wordAt_67 ?_
    exact W.aret (v := .ref (po.2.1 5)) hx hb hr (Or.inl ⟨_, rfl⟩) (Or.inr ⟨_, rfl⟩) (fun t ht hW => ⟨some (po.2.1 5), rfl, ⟨5, by decide, by decide, rfl⟩, ht⟩) (fun q hq => by cases hq) dX3_wordAt_69
  · have kc6 : (6 : Int32).toInt = 6 := by decide
    refine lv_tableIn (tgt := 70) hx hb dX3_wordAt_1 (by decide) (by decide) rfl (by decide) ?_
    refine va_ldcS (own := RX3) (index := 124) hx hb hown (hZ.2.2.2.1 6 (by decide)) dX3_wordAt_70 ?_
    exact W.aret (v := .ref (po.2.1 6)) hx hb hr (Or.inl ⟨_, rfl⟩) (Or.inr ⟨_, rfl⟩) (fun t ht hW => ⟨some (po.2.1 6), rfl, ⟨6, by decide, by decide, rfl⟩, ht⟩) (fun q hq => by cases hq) dX3_wordAt_72
  · have kc7 : (7 : Int32).toInt = 7 := by decide
    refine lv_tableIn (tgt := 73) hx hb dX3_wordAt_1 (by decide) (by decide) rfl (by decide) ?_
    refine va_ldcS (own := RX3) (index := 126) hx hb hown (hZ.2.2.2.1 7 (by decide)) dX3_wordAt_73 ?_
    exact W.aret (v := .ref (po.2.1 7)) hx hb hr (Or.inl ⟨_, rfl⟩) (Or.inr ⟨_, rfl⟩) (fun t ht hW => ⟨some (po.2.1 7), rfl, ⟨7, by decide, by decide, rfl⟩, ht⟩) (fun q hq => by cases hq) dX3_wordAt_75
  · have kc8 : (8 : Int32).toInt = 8 := by decide
    refine lv_tableIn (tgt := 76) hx hb dX3_wordAt_1 (by decide) (by decide) rfl (by decide) ?_
    refine va_ldcS (own := RX3) (index := 128) hx hb hown (hZ.2.2.2.1 8 (by decide)) dX3_wordAt_76 ?_
    exact W.aret (v := .ref (po.2.1 8)) hx hb hr (Or.inl ⟨_, rfl⟩) (Or.inr ⟨_, rfl⟩) (fun t ht hW => ⟨some (po.2.1 8), rfl, ⟨8, by decide, by decide, rfl⟩, ht⟩) (fun q hq => by cases hq) dX3_wordAt_78
  · have kc9 : (9 : Int32).toInt = 9 := by decide
    refine lv_tableOut (tgt := 79) hx hb dX3_wordAt_1 (by decide) (by decide) ?_
    refine va_ldcS (own := RX3) (index := 130) hx hb hown (hZ.2.2.2.1 9 (by decide)) dX3_wordAt_79 ?_
    exact W.aret (v := .ref (po.2.1 9)) hx hb hr (Or.inl ⟨_, rfl⟩) (Or.inr ⟨_, rfl⟩) (fun t ht hW => ⟨some (po.2.1 9), rfl, ⟨9, by decide, by decide, rfl⟩, ht⟩) (fun q hq => by cases hq) dX3_wordAt_81
theorem hi_X3_readWord_3 : ∀ w ∈ u_ws RX3 TX3 8, w ∈ wsX3_readWord := fun w h => (gl_X3_readWord_X30 w h).1
set_option maxHeartbeats 4000000 in
set_option maxRecDepth 100000 in
theorem c_R_isDigit (l : Launch) (D : va_G) (cI cJ cZ cP cS : ClassId) (po : zPool) (i : Int32)  : Met l yX3_isDigit wsX3_isDigit ({ frames := 0, cells := 0, slots := 0, locals := 0 }) (va_Pc [.int i] (zR D (zKT cI cJ cZ cP cS) po [])) (vp_Si (fun r => (r = 0 ∧ i.toInt < 48) ∨ (r = 0 ∧ 48 ≤ i.toInt ∧ 57 < i.toInt) ∨ (r = 1 ∧ 48 ≤ i.toInt ∧ i.toInt ≤ 57))) 0 0 (fun _ => False) := by
  refine Met.ofW (cc := cX3_isDigit) (maxL := 1) (ret := (some .boolean)) (by decide) rfl ?_
  intro p e s m args below meth c s₁ B hml hv
  obtain ⟨rfl, hP, hK, hN, hZ⟩ := hv
  have hx := B.exec
  have hb := B.bytes
  have hr := B.returns
  have hts := atoms_spec (ws := wsX3_isDigit) B.pre
  have hown : s.vm.findClass RX3 = some m.cls := findClass_of_methodNamed B.named
  have hlocks := B.notSynchronized
  have hl := lv_entry ([.int i]) (n := 1) (Nat.le_of_ble_eq_true rfl)
  rw [lg_entry_eq]
  generalize (lg_sl ([.int i]) ++ List.replicate (1 - (lg_sl ([.int i])).length) Slot.unset).toArray = ls at hl ⊢
  replace hl : lv_has ls 1 [(0, .int i)] := hl
  refine lv_iload_n hx hb dX3_isDigit_0 rfl (lv_at hl 0 rfl) ?_
  refine lv_bipush (v := 48) hx hb dX3_isDigit_1 (by decide) ?_
  refine lv_icmp_lt (tgt := 16) hx hb dX3_isDigit_3 (by decide) (fun c_1 => ?_) (fun c_1 => ?_)
  · have fc_1 : i.toInt < 48 := zf_lt c_1 rfl (by decide)
    refine lv_iconst (v := 0) hx hb dX3_isDigit_16 (by decide) ?_
    exact W.zret (v := 0) hx hb hr (by decide) (fun t ht hW => ⟨0, rfl, Or.inl (⟨rfl, (by first | omega | decide)⟩), ht⟩) (fun q hq => by cases hq) dX3_isDigit_17
  · have fc_1 : 48 ≤ i.toInt := zf_nlt c_1 rfl (by decide)
    refine lv_iload_n hx hb dX3_isDigit_6 rfl (lv_at hl 0 rfl) ?_
    refine lv_bipush (v := 57) hx hb dX3_isDigit_7 (by decide) ?_
    refine lv_icmp_gt (tgt := 16) hx hb dX3_isDigit_9 (by decide) (fun c_2 => ?_) (fun c_2 => ?_)
    · have fc_2 : 57 < i.toInt := zf_lt c_2 (by decide) rfl
      refine lv_iconst (v := 0) hx hb dX3_isDigit_16 (by decide) ?_
      exact W.zret (v := 0) hx hb hr (by decide) (fun t ht hW => ⟨0, rfl, Or.inr (Or.inl (⟨rfl, (by first | omega | decide), (by first | omega | decide)⟩)), ht⟩) (fun q hq => by cases hq) dX3_isDigit_17
    · have fc_2 : i.toInt ≤ 57 := zf_nlt c_2 (by decide) rfl
      refine lv_iconst (v := 1) hx hb dX3_isDigit_12 (by decide) ?_
      refine lv_goto (tgt := 17) hx hb dX3_isDigit_13 (by decide) ?_
      exact W.zret (v := 1) hx hb hr (by decide) (fun t ht hW => ⟨1, rfl, Or.inr (Or.inr (⟨rfl, (by first | omega | decide), (by first | omega | decide)⟩)), ht⟩) (fun q hq => by cases hq) dX3_isDigit_17
theorem gl_X3_readNumber_X30 : GoodIn wsX3_readNumber wsX30 := (dg_t (dg_t (dg_t (dg_t (dg_t (dg_t (dg_t (dg_t (dg_t (dg_t (dg_t (dg_t gw_wsX30))))))))))))
theorem hi_X3_readNumber_3 : ∀ w ∈ u_ws RX3 TX3 8, w ∈ wsX3_readNumber := fun w h => (gl_X3_readNumber_X30 w h).1
end
section
set_option maxHeartbeats 4000000 in
set_option maxRecDepth 100000 in
theorem c_R_numbersOf_0 (l : Launch) (D : va_G) (cI cJ cZ cP cS : ClassId) (po : zPool)   : Met l yX3_numbersOf wsX3_numbersOf ({ frames := 0, cells := 0, slots := 0, locals := 0 }) (va_Pc [.int 0] (zR D (zKT cI cJ cZ cP cS) po [])) (vp_Si (fun r => r = 1)) 0 0 (fun _ => False) := by
  refine Met.ofW (cc := cX3_numbersOf) (maxL := 1) (ret := (some .int)) (by decide) rfl ?_
  intro p e s m args below meth c s₁ B hml hv
  obtain ⟨rfl, hP, hK, hN, hZ⟩ := hv
  have hx := B.exec
  have hb := B.bytes
  have hr := B.returns
  have hts := atoms_spec (ws := wsX3_numbersOf) B.pre
  have hown : s.vm.findClass RX3 = some m.cls := findClass_of_methodNamed B.named
  have hlocks := B.notSynchronized
  have hl := lv_entry ([.int 0]) (n := 1) (Nat.le_of_ble_eq_true rfl)
  rw [lg_entry_eq]
  generalize (lg_sl ([.int 0]) ++ List.replicate (1 - (lg_sl ([.int 0])).length) Slot.unset).toArray = ls at hl ⊢
  replace hl : lv_has ls 1 [(0, .int 0)] := hl
  refine lv_iload_n hx hb dX3_numbersOf_0 rfl (lv_at hl 0 rfl) ?_
  refine lv_lookup (off := 39) (tgt := 40) hx hb dX3_numbersOf_1 (by decide) (by decide) (by decide) ?_
  refine lv_iconst (v := 1) hx hb dX3_numbersOf_40 (by decide) ?_
  exact W.iret (v := 1) hx hb hr (fun t ht hW => ⟨1, rfl, rfl, ht⟩) (fun q hq => by cases hq) dX3_numbersOf_41
set_option maxHeartbeats 4000000 in
set_option maxRecDepth 100000 in
theorem c_R_numbersOf_1 (l : Launch) (D : va_G) (cI cJ cZ cP cS : ClassId) (po : zPool)   : Met l yX3_numbersOf wsX3_numbersOf ({ frames := 0, cells := 0, slots := 0, locals := 0 }) (va_Pc [.int 1] (zR D (zKT cI cJ cZ cP cS) po [])) (vp_Si (fun r => r = 1)) 0 0 (fun _ => False) := by
  refine Met.ofW (cc := cX3_numbersOf) (maxL := 1) (ret := (some .int)) (by decide) rfl ?_
  intro p e s m args below meth c s₁ B hml hv
  obtain ⟨rfl, hP, hK, hN, hZ⟩ := hv
  have hx := B.exec
  have hb := B.bytes
  have hr := B.returns
  have hts := atoms_spec (ws := wsX3_numbersOf) B.pre
  have hown : s.vm.findClass RX3 = some m.cls := findClass_of_methodNamed B.named
  have hlocks := B.notSynchronized
  have hl := lv_entry ([.int 1]) (n := 1) (Nat.le_of_ble_eq_true rfl)
  rw [lg_entry_eq]
  generalize (lg_sl ([.int 1]) ++ List.replicate (1 - (lg_sl ([.int 1])).length) Slot.unset).toArray = ls at hl ⊢
  replace hl : lv_has ls 1 [(0, .int 1)] := hl
  refine lv_iload_n hx hb dX3_numbersOf_0 rfl (lv_at hl 0 rfl) ?_
  refine lv_lookup (off := 39) (tgt := 40) hx hb dX3_numbersOf_1 (by decide) (by decide) (by decide) ?_
  refine lv_iconst (v := 1) hx hb dX3_numbersOf_40 (by decide) ?_
  exact W.iret (v := 1) hx hb hr (fun t ht hW => ⟨1, rfl, rfl, ht⟩) (fun q hq => by cases hq) dX3_numbersOf_41
set_option maxHeartbeats 4000000 in
set_option maxRecDepth 100000 in
theorem c_R_numbersOf_2 (l : Launch) (D : va_G) (cI cJ cZ cP cS : ClassId) (po : zPool)   : Met l yX3_numbersOf wsX3_numbersOf ({ frames := 0, cells := 0, slots := 0, locals := 0 }) (va_Pc [.int 2] (zR D (zKT cI cJ cZ cP cS) po [])) (vp_Si (fun r => r = 2)) 0 0 (fun _ => False) := by
  refine Met.ofW (cc := cX3_numbersOf) (maxL := 1) (ret := (some .int)) (by decide) rfl ?_
  intro p e s m args below meth c s₁ B hml hv
  obtain ⟨rfl, hP, hK, hN, hZ⟩ := hv
  have hx := B.exec
  have hb := B.bytes
  have hr := B.returns
  have hts := atoms_spec (ws := wsX3_numbersOf) B.pre
  have hown : s.vm.findClass RX3 = some m.cls := findClass_of_methodNamed B.named
  have hlocks := B.notSynchronized
  have hl := lv_entry ([.int 2]) (n := 1) (Nat.le_of_ble_eq_true rfl)
  rw [lg_entry_eq]
  generalize (lg_sl ([.int 2]) ++ List.replicate (1 - (lg_sl ([.int 2])).length) Slot.unset).toArray = ls at hl ⊢
  replace hl : lv_has ls 1 [(0, .int 2)] := hl
  refine lv_iload_n hx hb dX3_numbersOf_0 rfl (lv_at hl 0 rfl) ?_
  refine lv_lookup (off := 37) (tgt := 38) hx hb dX3_numbersOf_1 (by decide) (by decide) (by decide) ?_
  refine lv_iconst (v := 2) hx hb dX3_numbersOf_38 (by decide) ?_
  exact W.iret (v := 2) hx hb hr (fun t ht hW => ⟨2, rfl, rfl, ht⟩) (fun q hq => by cases hq) dX3_numbersOf_39
set_option maxHeartbeats 4000000 in
set_option maxRecDepth 100000 in
theorem c_R_numbersOf_3 (l : Launch) (D : va_G) (cI cJ cZ cP cS : ClassId) (po : zPool)   : Met l yX3_numbersOf wsX3_numbersOf ({ frames := 0, cells := 0, slots := 0, locals := 0 }) (va_Pc [.int 3] (zR D (zKT cI cJ cZ cP cS) po [])) (vp_Si (fun r => r = 3)) 0 0 (fun _ => False) := by
  refine Met.ofW (cc := cX3_numbersOf) (maxL := 1) (ret := (some .int)) (by decide) rfl ?_
  intro p e s m args below meth c s₁ B hml hv
  obtain ⟨rfl, hP, hK, hN, hZ⟩ := hv
  have hx := B.exec
  have hb := B.bytes
  have hr := B.returns
  have hts := atoms_spec (ws := wsX3_numbersOf) B.pre
  have hown : s.vm.findClass RX3 = some m.cls := findClass_of_methodNamed B.named
  have hlocks := B.notSynchronized
  have hl := lv_entry ([.int 3]) (n := 1) (Nat.le_of_ble_eq_true rfl)
  rw [lg_entry_eq]
  generalize (lg_sl ([.int 3]) ++ List.replicate (1 - (lg_sl ([.int 3])).length) Slot.unset).toArray = ls at hl ⊢
  replace hl : lv_has ls 1 [(0, .int 3)] := hl
  refine lv_iload_n hx hb dX3_numbersOf_0 rfl (lv_at hl 0 rfl) ?_
  refine lv_lookup (off := 35) (tgt := 36) hx hb dX3_numbersOf_1 (by decide) (by decide) (by decide) ?_
  refine lv_iconst (v := 3) hx hb dX3_numbersOf_36 (by decide) ?_
  exact W.iret (v := 3) hx hb hr (fun t ht hW => ⟨3, rfl, rfl, ht⟩) (fun q hq => by cases hq) dX3_numbersOf_37
set_option maxHeartbeats 4000000 in
set_option maxRecDepth 100000 in
theorem c_R_numbersOf_4 (l : Launch) (D : va_G) (cI cJ cZ cP cS : ClassId) (po : zPool)   : Met l yX3_numbersOf wsX3_numbersOf ({ frames := 0, cells := 0, slots := 0, locals := 0 }) (va_Pc [.int 4] (zR D (zKT cI cJ cZ cP cS) po [])) (vp_Si (fun r => r = 1)) 0 0 (fun _ => False) := by
  refine Met.ofW (cc := cX3_numbersOf) (maxL := 1) (ret := (some .int)) (by decide) rfl ?_
  intro p e s m args below meth c s₁ B hml hv
  obtain ⟨rfl, hP, hK, hN, hZ⟩ := hv
  have hx := B.exec
  have hb := B.bytes
  have hr := B.returns
  have hts := atoms_spec (ws := wsX3_numbersOf) B.pre
  have hown : s.vm.findClass RX3 = some m.cls := findClass_of_methodNamed B.named
  have hlocks := B.notSynchronized
  have hl := lv_entry ([.int 4]) (n := 1) (Nat.le_of_ble_eq_true rfl)
  rw [lg_entry_eq]
  generalize (lg_sl ([.int 4]) ++ List.replicate (1 - (lg_sl ([.int 4])).length) Slot.unset).toArray = ls at hl ⊢
  replace hl : lv_has ls 1 [(0, .int 4)] := hl
  refine lv_iload_n hx hb dX3_numbersOf_0 rfl (lv_at hl 0 rfl) ?_
  refine lv_lookup (off := 39) (tgt := 40) hx hb dX3_numbersOf_1 (by decide) (by decide) (by decide) ?_
  refine lv_iconst (v := 1) hx hb dX3_numbersOf_40 (by decide) ?_
  exact W.iret (v := 1) hx hb hr (fun t ht hW => ⟨1, rfl, rfl, ht⟩) (fun q hq => by cases hq) dX3_numbersOf_41
set_option maxHeartbeats 4000000 in
set_option maxRecDepth 100000 in
theorem c_R_numbersOf_5 (l : Launch) (D : va_G) (cI cJ cZ cP cS : ClassId) (po : zPool)   : Met l yX3_numbersOf wsX3_numbersOf ({ frames := 0, cells := 0, slots := 0, locals := 0 }) (va_Pc [.int 5] (zR D (zKT cI cJ cZ cP cS) po [])) (vp_Si (fun r => r = 1)) 0 0 (fun _ => False) := by
  refine Met.ofW (cc := cX3_numbersOf) (maxL := 1) (ret := (some .int)) (by decide) rfl ?_
  intro p e s m args below meth c s₁ B hml hv
  obtain ⟨rfl, hP, hK, hN, hZ⟩ := hv
  have hx := B.exec
  have hb := B.bytes
  have hr := B.returns
  have hts := atoms_spec (ws := wsX3_numbersOf) B.pre
  have hown : s.vm.findClass RX3 = some m.cls := findClass_of_methodNamed B.named
  have hlocks := B.notSynchronized
  have hl := lv_entry ([.int 5]) (n := 1) (Nat.le_of_ble_eq_true rfl)
  rw [lg_entry_eq]
  generalize (lg_sl ([.int 5]) ++ List.replicate (1 - (lg_sl ([.int 5])).length) Slot.unset).toArray = ls at hl ⊢
  replace hl : lv_has ls 1 [(0, .int 5)] := hl
  refine lv_iload_n hx hb dX3_numbersOf_0 rfl (lv_at hl 0 rfl) ?_
  refine lv_lookup (off := 39) (tgt := 40) hx hb dX3_numbersOf_1 (by decide) (by decide) (by decide) ?_
  refine lv_iconst (v := 1) hx hb dX3_numbersOf_40 (by decide) ?_
  exact W.iret (v := 1) hx hb hr (fun t ht hW => ⟨1, rfl, rfl, ht⟩) (fun q hq => by cases hq) dX3_numbersOf_41
set_option maxHeartbeats 4000000 in
set_option maxRecDepth 100000 in
theorem c_R_numbersOf_6 (l : Launch) (D : va_G) (cI cJ cZ cP cS : ClassId) (po : zPool)   : Met l yX3_numbersOf wsX3_numbersOf ({ frames := 0, cells := 0, slots := 0, locals := 0 }) (va_Pc [.int 6] (zR D (zKT cI cJ cZ cP cS) po [])) (vp_Si (fun r => r = 1)) 0 0 (fun _ => False) := by
  refine Met.ofW (cc := cX3_numbersOf) (maxL := 1) (ret := (some .int)) (by decide) rfl ?_
  intro p e s m args below meth c s₁ B hml hv
  obtain ⟨rfl, hP, hK, hN, hZ⟩ := hv
  have hx := B.exec
  have hb := B.bytes
  have hr := B.returns
  have hts := atoms_spec (ws := wsX3_numbersOf) B.pre
  have hown : s.vm.findClass RX3 = some m.cls := findClass_of_methodNamed B.named
  have hlocks := B.notSynchronized
  have hl := lv_entry ([.int 6]) (n := 1) (Nat.le_of_ble_eq_true rfl)
  rw [lg_entry_eq]
  generalize (lg_sl ([.int 6]) ++ List.replicate (1 - (lg_sl ([.int 6])).length) Slot.unset).toArray = ls at hl ⊢
  replace hl : lv_has ls 1 [(0, .int 6)] := hl
  refine lv_iload_n hx hb dX3_numbersOf_0 rfl (lv_at hl 0 rfl) ?_
  refine lv_lookup (off := 39) (tgt := 40) hx hb dX3_numbersOf_1 (by decide) (by decide) (by decide) ?_
  refine lv_iconst (v := 1) hx hb dX3_numbersOf_40 (by decide) ?_
  exact W.iret (v := 1) hx hb hr (fun t ht hW => ⟨1, rfl, rfl, ht⟩) (fun q hq => by cases hq) dX3_numbersOf_41
set_option maxHeartbeats 4000000 in
set_option maxRecDepth 100000 in
theorem c_R_numbersOf_7 (l : Launch) (D : va_G) (cI cJ cZ cP cS : ClassId) (po : zPool)   : Met l yX3_numbersOf wsX3_numbersOf ({ frames := 0, cells := 0, slots := 0, locals := 0 }) (va_Pc [.int 7] (zR D (zKT cI cJ cZ cP cS) po [])) (vp_Si (fun r => r = 1)) 0 0 (fun _ => False) := by
  refine Met.ofW (cc := cX3_numbersOf) (maxL := 1) (ret := (some .int)) (by decide) rfl ?_
  intro p e s m args below meth c s₁ B hml hv
  obtain ⟨rfl, hP, hK, hN, hZ⟩ := hv
  have hx := B.exec
  have hb := B.bytes
  have hr := B.returns
  have hts := atoms_spec (ws := wsX3_numbersOf) B.pre
  have hown : s.vm.findClass RX3 = some m.cls := findClass_of_methodNamed B.named
  have hlocks := B.notSynchronized
  have hl := lv_entry ([.int 7]) (n := 1) (Nat.le_of_ble_eq_true rfl)
  rw [lg_entry_eq]
  generalize (lg_sl ([.int 7]) ++ List.replicate (1 - (lg_sl ([.int 7])).length) Slot.unset).toArray = ls at hl ⊢
  replace hl : lv_has ls 1 [(0, .int 7)] := hl
  refine lv_iload_n hx hb dX3_numbersOf_0 rfl (lv_at hl 0 rfl) ?_
  refine lv_lookup (off := 39) (tgt := 40) hx hb dX3_numbersOf_1 (by decide) (by decide) (by decide) ?_
  refine lv_iconst (v := 1) hx hb dX3_numbersOf_40 (by decide) ?_
  exact W.iret (v := 1) hx hb hr (fun t ht hW => ⟨1, rfl, rfl, ht⟩) (fun q hq => by cases hq) dX3_numbersOf_41
set_option maxHeartbeats 4000000 in
set_option maxRecDepth 100000 in
theorem c_R_numbersOf_8 (l : Launch) (D : va_G) (cI cJ cZ cP cS : ClassId) (po : zPool)   : Met l yX3_numbersOf wsX3_numbersOf ({ frames := 0, cells := 0, slots := 0, locals := 0 }) (va_Pc [.int 8] (zR D (zKT cI cJ cZ cP cS) po [])) (vp_Si (fun r => r = 2)) 0 0 (fun _ => False) := by
  refine Met.ofW (cc := cX3_numbersOf) (maxL := 1) (ret := (some .int)) (by decide) rfl ?_
  intro p e s m args below meth c s₁ B hml hv
  obtain ⟨rfl, hP, hK, hN, hZ⟩ := hv
  have hx := B.exec
  have hb := B.bytes
  have hr := B.returns
  have hts := atoms_spec (ws := wsX3_numbersOf) B.pre
  have hown : s.vm.findClass RX3 = some m.cls := findClass_of_methodNamed B.named
  have hlocks := B.notSynchronized
  have hl := lv_entry ([.int 8]) (n := 1) (Nat.le_of_ble_eq_true rfl)
  rw [lg_entry_eq]
  generalize (lg_sl ([.int 8]) ++ List.replicate (1 - (lg_sl ([.int 8])).length) Slot.unset).toArray = ls at hl ⊢
  replace hl : lv_has ls 1 [(0, .int 8)] := hl
  refine lv_iload_n hx hb dX3_numbersOf_0 rfl (lv_at hl 0 rfl) ?_
  refine lv_lookup (off := 37) (tgt := 38) hx hb dX3_numbersOf_1 (by decide) (by decide) (by decide) ?_
  refine lv_iconst (v := 2) hx hb dX3_numbersOf_38 (by decide) ?_
  exact W.iret (v := 2) hx hb hr (fun t ht hW => ⟨2, rfl, rfl, ht⟩) (fun q hq => by cases hq) dX3_numbersOf_39
set_option maxHeartbeats 4000000 in
set_option maxRecDepth 100000 in
theorem c_R_numbersOf_9 (l : Launch) (D : va_G) (cI cJ cZ cP cS : ClassId) (po : zPool)   : Met l yX3_numbersOf wsX3_numbersOf ({ frames := 0, cells := 0, slots := 0, locals := 0 }) (va_Pc [.int 9] (zR D (zKT cI cJ cZ cP cS) po [])) (vp_Si (fun r => r = 1)) 0 0 (fun _ => False) := by
  refine Met.ofW (cc := cX3_numbersOf) (maxL := 1) (ret := (some .int)) (by decide) rfl ?_
  intro p e s m args below meth c s₁ B hml hv
  obtain ⟨rfl, hP, hK, hN, hZ⟩ := hv
  have hx := B.exec
  have hb := B.bytes
  have hr := B.returns
  have hts := atoms_spec (ws := wsX3_numbersOf) B.pre
  have hown : s.vm.findClass RX3 = some m.cls := findClass_of_methodNamed B.named
  have hlocks := B.notSynchronized
  have hl := lv_entry ([.int 9]) (n := 1) (Nat.le_of_ble_eq_true rfl)
  rw [lg_entry_eq]
  generalize (lg_sl ([.int 9]) ++ List.replicate (1 - (lg_sl ([.int 9])).length) Slot.unset).toArray = ls at hl ⊢
  replace hl : lv_has ls 1 [(0, .int 9)] := hl
  refine lv_iload_n hx hb dX3_numbersOf_0 rfl (lv_at hl 0 rfl) ?_
  refine lv_lookup (off := 39) (tgt := 40) hx hb dX3_numbersOf_1 (by decide) (by decide) (by decide) ?_
  refine lv_iconst (v := 1) hx hb dX3_numbersOf_40 (by decide) ?_
  exact W.iret (v := 1) hx hb hr (fun t ht hW => ⟨1, rfl, rfl, ht⟩) (fun q hq => by cases hq) dX3_numbersOf_41
set_option maxHeartbeats 4000000 in
set_option maxRecDepth 100000 in
theorem c_R_leastOf_0_0 (l : Launch) (D : va_G) (cI cJ cZ cP cS : ClassId) (po : zPool)   : Met l yX3_leastOf wsX3_leastOf ({ frames := 0, cells := 0, slots := 0, locals := 0 }) (va_Pc [.int 0, .int 0] (zR D (zKT cI cJ cZ cP cS) po [])) (vp_Si (fun r => r = 4)) 0 0 (fun _ => False) := by
  refine Met.ofW (cc := cX3_leastOf) (maxL := 2) (ret := (some .int)) (by decide) rfl ?_
  intro p e s m args below meth c s₁ B hml hv
  obtain ⟨rfl, hP, hK, hN, hZ⟩ := hv
  have hx := B.exec
  have hb := B.bytes
  have hr := B.returns
  have hts := atoms_spec (ws := wsX3_leastOf) B.pre
  have hown : s.vm.findClass RX3 = some m.cls := findClass_of_methodNamed B.named
  have hlocks := B.notSynchronized
  have hl := lv_entry ([.int 0, .int 0]) (n := 2) (Nat.le_of_ble_eq_true rfl)
  rw [lg_entry_eq]
  generalize (lg_sl ([.int 0, .int 0]) ++ List.replicate (2 - (lg_sl ([.int 0, .int 0])).length) Slot.unset).toArray = ls at hl ⊢
  replace hl : lv_has ls 2 [(0, .int 0), (1, .int 0)] := hl
  refine lv_iload_n hx hb dX3_leastOf_0 rfl (lv_at hl 0 rfl) ?_
  refine lv_if_ne (tgt := 6) hx hb dX3_leastOf_1 (by decide) (fun c_1 => ?_) (fun c_1 => ?_)
  · exact absurd c_1 (by decide)
  · refine lv_iconst (v := 4) hx hb dX3_leastOf_4 (by decide) ?_
    exact W.iret (v := 4) hx hb hr (fun t ht hW => ⟨4, rfl, rfl, ht⟩) (fun q hq => by cases hq) dX3_leastOf_5
set_option maxHeartbeats 4000000 in
set_option maxRecDepth 100000 in
theorem c_R_mostOf_0_0 (l : Launch) (D : va_G) (cI cJ cZ cP cS : ClassId) (po : zPool) (rd ri rl : Nat) (rz rc rp rf rt ru : Int32) (hy0 : 0 ≤ rz.toInt) (hy1 : rz.toInt ≤ 160) (hy2 : 0 ≤ rc.toInt) (hy3 : rc.toInt ≤ 40) (hy4 : 0 ≤ rp.toInt) (hy5 : rp.toInt ≤ 160) (hy6 : rp.toInt ≤ rz.toInt) (hy7 : (-1) ≤ rf.toInt) (hy8 : rf.toInt ≤ 160) (hy9 : 0 ≤ rt.toInt) (hy10 : rt.toInt ≤ 40) (hy11 : 0 ≤ ru.toInt) (hy12 : ru.toInt ≤ 8) : Met l yX3_mostOf wsX3_mostOf ({ frames := 0, cells := 0, slots := 0, locals := 0 }) (va_Pc [.ref rd, .int 0, .int 0] (zR D (zKT cI cJ cZ cP cS) po [(rd, .inr (3, [.ref ri, .ref rl, .int rz, .int rc, .int rp, .int rf, .int rt, .int ru]))])) (vp_Si (fun r => r = 40)) 0 0 (fun _ => False) := by
  refine Met.ofW (cc := cX3_mostOf) (maxL := 3) (ret := (some .int)) (by decide) rfl ?_
  intro p e s m args below meth c s₁ B hml hv
  obtain ⟨rfl, hP, hK, hN, hZ⟩ := hv
  have hx := B.exec
  have hb := B.bytes
  have hr := B.returns
  have hts := atoms_spec (ws := wsX3_mostOf) B.pre
  have hown : s.vm.findClass RX3 = some m.cls := findClass_of_methodNamed B.named
  have hlocks := B.notSynchronized
  have hl := lv_entry ([.ref rd, .int 0, .int 0]) (n := 3) (Nat.le_of_ble_eq_true rfl)
  rw [lg_entry_eq]
  generalize (lg_sl ([.ref rd, .int 0, .int 0]) ++ List.replicate (3 - (lg_sl ([.ref rd, .int 0, .int 0])).length) Slot.unset).toArray = ls at hl ⊢
  replace hl : lv_has ls 3 [(0, .ref rd), (1, .int 0), (2, .int 0)] := hl
  refine lv_iload_n hx hb dX3_mostOf_0 rfl (lv_at hl 1 rfl) ?_
  refine lv_tableIn (tgt := 52) hx hb dX3_mostOf_1 (by decide) (by decide) rfl (by decide) ?_
  refine lv_bipush (v := 40) hx hb dX3_mostOf_52 (by decide) ?_
  exact W.iret (v := 40) hx hb hr (fun t ht hW => ⟨40, rfl, rfl, ht⟩) (fun q hq => by cases hq) dX3_mostOf_54
set_option maxHeartbeats 4000000 in
set_option maxRecDepth 100000 in
theorem c_R_leastOf_1_0 (l : Launch) (D : va_G) (cI cJ cZ cP cS : ClassId) (po : zPool)   : Met l yX3_leastOf wsX3_leastOf ({ frames := 0, cells := 0, slots := 0, locals := 0 }) (va_Pc [.int 1, .int 0] (zR D (zKT cI cJ cZ cP cS) po [])) (vp_Si (fun r => r = 0)) 0 0 (fun _ => False) := by
  refine Met.ofW (cc := cX3_leastOf) (maxL := 2) (ret := (some .int)) (by decide) rfl ?_
  intro p e s m args below meth c s₁ B hml hv
  obtain ⟨rfl, hP, hK, hN, hZ⟩ := hv
  have hx := B.exec
  have hb := B.bytes
  have hr := B.returns
  have hts := atoms_spec (ws := wsX3_leastOf) B.pre
  have hown : s.vm.findClass RX3 = some m.cls := findClass_of_methodNamed B.named
  have hlocks := B.notSynchronized
  have hl := lv_entry ([.int 1, .int 0]) (n := 2) (Nat.le_of_ble_eq_true rfl)
  rw [lg_entry_eq]
  generalize (lg_sl ([.int 1, .int 0]) ++ List.replicate (2 - (lg_sl ([.int 1, .int 0])).length) Slot.unset).toArray = ls at hl ⊢
  replace hl : lv_has ls 2 [(0, .int 1), (1, .int 0)] := hl
  refine lv_iload_n hx hb dX3_leastOf_0 rfl (lv_at hl 0 rfl) ?_
  refine lv_if_ne (tgt := 6) hx hb dX3_leastOf_1 (by decide) (fun c_1 => ?_) (fun c_1 => ?_)
  · refine lv_iload_n hx hb dX3_leastOf_6 rfl (lv_at hl 0 rfl) ?_
    refine lv_bipush (v := 7) hx hb dX3_leastOf_7 (by decide) ?_
    refine lv_icmp_eq (tgt := 22) hx hb dX3_leastOf_9 (by decide) (fun c_2 => ?_) (fun c_2 => ?_)
    · exact absurd c_2 (by decide)
    · refine lv_iload_n hx hb dX3_leastOf_12 rfl (lv_at hl 0 rfl) ?_
      refine lv_iconst (v := 3) hx hb dX3_leastOf_13 (by decide) ?_
      refine lv_icmp_ne (tgt := 26) hx hb dX3_leastOf_14 (by decide) (fun c_3 => ?_) (fun c_3 => ?_)
      · refine lv_iconst (v := 0) hx hb dX3_leastOf_26 (by decide) ?_
        exact W.iret (v := 0) hx hb hr (fun t ht hW => ⟨0, rfl, rfl, ht⟩) (fun q hq => by cases hq) dX3_leastOf_27
      · exact absurd c_3 (by decide)
  · exact absurd c_1 (by decide)
theorem gl_X3_mostOf_X30 : GoodIn wsX3_mostOf wsX30 := (dg_t (dg_t gw_wsX30))
theorem hi_X3_mostOf_3 : ∀ w ∈ u_ws RX3 TX3 8, w ∈ wsX3_mostOf := fun w h => (gl_X3_mostOf_X30 w h).1
set_option maxHeartbeats 4000000 in
set_option maxRecDepth 100000 in
theorem c_R_mostOf_1_0 (l : Launch) (D : va_G) (cI cJ cZ cP cS : ClassId) (po : zPool) (rd ri rl : Nat) (rz rc rp rf rt ru : Int32) (hy0 : 0 ≤ rz.toInt) (hy1 : rz.toInt ≤ 160) (hy2 : 0 ≤ rc.toInt) (hy3 : rc.toInt ≤ 40) (hy4 : 0 ≤ rp.toInt) (hy5 : rp.toInt ≤ 160) (hy6 : rp.toInt ≤ rz.toInt) (hy7 : (-1) ≤ rf.toInt) (hy8 : rf.toInt ≤ 160) (hy9 : 0 ≤ rt.toInt) (hy10 : rt.toInt ≤ 40) (hy11 : 0 ≤ ru.toInt) (hy12 : ru.toInt ≤ 8) : Met l yX3_mostOf wsX3_mostOf ({ frames := 0, cells := 0, slots := 0, locals := 0 }) (va_Pc [.ref rd, .int 1, .int 0] (zR D (zKT cI cJ cZ cP cS) po [(rd, .inr (3, [.ref ri, .ref rl, .int rz, .int rc, .int rp, .int rf, .int rt, .int ru]))])) (vp_Si (fun r => -1 ≤ r.toInt ∧ r.toInt ≤ 39 ∧ (r.toInt = rt.toInt - 1))) 0 0 (fun _ => False) := by
  refine Met.ofW (cc := cX3_mostOf) (maxL := 3) (ret := (some .int)) (by decide) rfl ?_
  intro p e s m args below meth c s₁ B hml hv
  obtain ⟨rfl, hP, hK, hN, hZ⟩ := hv
  have hx := B.exec
  have hb := B.bytes
  have hr := B.returns
  have hts := atoms_spec (ws := wsX3_mostOf) B.pre
  have hown : s.vm.findClass RX3 = some m.cls := findClass_of_methodNamed B.named
  have hlocks := B.notSynchronized
  have hl := lv_entry ([.ref rd, .int 1, .int 0]) (n := 3) (Nat.le_of_ble_eq_true rfl)
  rw [lg_entry_eq]
  generalize (lg_sl ([.ref rd, .int 1, .int 0]) ++ List.replicate (3 - (lg_sl ([.ref rd, .int 1, .int 0])).length) Slot.unset).toArray = ls at hl ⊢
  replace hl : lv_has ls 3 [(0, .ref rd), (1, .int 1), (2, .int 0)] := hl
  refine lv_iload_n hx hb dX3_mostOf_0 rfl (lv_at hl 1 rfl) ?_
  refine lv_tableIn (tgt := 55) hx hb dX3_mostOf_1 (by decide) (by decide) rfl (by decide) ?_
  refine lv_aload_n hx hb dX3_mostOf_55 rfl (lv_at hl 0 rfl) ?_
  refine va_get (D := D) (ci := 3) (v := .int rt) (C := RX3) (T := TX3) (N := 8) hx hb hts hi_X3_mostOf_3 hown hK hP 0 rfl rfl 6 (by decide) (hts (.fieldLink RX3 31 "TheLiningsInIt$Reader" "teeth" "I") (List.mem_of_getElem? (i := 1) rfl)) (fun _ h9 => h9) rfl dX3_mostOf_56 ?_
  refine lv_iconst (v := 1) hx hb dX3_mostOf_59 (by decide) ?_
  refine lv_isub hx hb dX3_mostOf_60 ?_
  refine lv_topi (fun x_1 ex_1 => ?_)
  have qx_1 : x_1.toInt = rt.toInt - 1 := by rw [ex_1]; exact zf_sub rfl (by decide) (by omega) (by omega)
  exact W.iret (v := x_1) hx hb hr (fun t ht hW => ⟨x_1, rfl, ⟨by omega, by omega, (show (x_1 : Int32).toInt = rt.toInt - 1 from by omega)⟩, ht⟩) (fun q hq => by cases hq) dX3_mostOf_61
set_option maxHeartbeats 4000000 in
set_option maxRecDepth 100000 in
theorem c_R_leastOf_2_0 (l : Launch) (D : va_G) (cI cJ cZ cP cS : ClassId) (po : zPool)   : Met l yX3_leastOf wsX3_leastOf ({ frames := 0, cells := 0, slots := 0, locals := 0 }) (va_Pc [.int 2, .int 0] (zR D (zKT cI cJ cZ cP cS) po [])) (vp_Si (fun r => r = 0)) 0 0 (fun _ => False) := by
  refine Met.ofW (cc := cX3_leastOf) (maxL := 2) (ret := (some .int)) (by decide) rfl ?_
  intro p e s m args below meth c s₁ B hml hv
  obtain ⟨rfl, hP, hK, hN, hZ⟩ := hv
  have hx := B.exec
  have hb := B.bytes
  have hr := B.returns
  have hts := atoms_spec (ws := wsX3_leastOf) B.pre
  have hown : s.vm.findClass RX3 = some m.cls := findClass_of_methodNamed B.named
  have hlocks := B.notSynchronized
  have hl := lv_entry ([.int 2, .int 0]) (n := 2) (Nat.le_of_ble_eq_true rfl)
  rw [lg_entry_eq]
  generalize (lg_sl ([.int 2, .int 0]) ++ List.replicate (2 - (lg_sl ([.int 2, .int 0])).length) Slot.unset).toArray = ls at hl ⊢
  replace hl : lv_has ls 2 [(0, .int 2), (1, .int 0)] := hl
  refine lv_iload_n hx hb dX3_leastOf_0 rfl (lv_at hl 0 rfl) ?_
  refine lv_if_ne (tgt := 6) hx hb dX3_leastOf_1 (by decide) (fun c_1 => ?_) (fun c_1 => ?_)
  · refine lv_iload_n hx hb dX3_leastOf_6 rfl (lv_at hl 0 rfl) ?_
    refine lv_bipush (v := 7) hx hb dX3_leastOf_7 (by decide) ?_
    refine lv_icmp_eq (tgt := 22) hx hb dX3_leastOf_9 (by decide) (fun c_2 => ?_) (fun c_2 => ?_)
    · exact absurd c_2 (by decide)
    · refine lv_iload_n hx hb dX3_leastOf_12 rfl (lv_at hl 0 rfl) ?_
      refine lv_iconst (v := 3) hx hb dX3_leastOf_13 (by decide) ?_
      refine lv_icmp_ne (tgt := 26) hx hb dX3_leastOf_14 (by decide) (fun c_3 => ?_) (fun c_3 => ?_)
      · refine lv_iconst (v := 0) hx hb dX3_leastOf_26 (by decide) ?_
        exact W.iret (v := 0) hx hb hr (fun t ht hW => ⟨0, rfl, rfl, ht⟩) (fun q hq => by cases hq) dX3_leastOf_27
      · exact absurd c_3 (by decide)
  · exact absurd c_1 (by decide)
set_option maxHeartbeats 4000000 in
set_option maxRecDepth 100000 in
theorem c_R_mostOf_2_0 (l : Launch) (D : va_G) (cI cJ cZ cP cS : ClassId) (po : zPool) (rd ri rl : Nat) (rz rc rp rf rt ru : Int32) (hy0 : 0 ≤ rz.toInt) (hy1 : rz.toInt ≤ 160) (hy2 : 0 ≤ rc.toInt) (hy3 : rc.toInt ≤ 40) (hy4 : 0 ≤ rp.toInt) (hy5 : rp.toInt ≤ 160) (hy6 : rp.toInt ≤ rz.toInt) (hy7 : (-1) ≤ rf.toInt) (hy8 : rf.toInt ≤ 160) (hy9 : 0 ≤ rt.toInt) (hy10 : rt.toInt ≤ 40) (hy11 : 0 ≤ ru.toInt) (hy12 : ru.toInt ≤ 8) : Met l yX3_mostOf wsX3_mostOf ({ frames := 0, cells := 0, slots := 0, locals := 0 }) (va_Pc [.ref rd, .int 2, .int 0] (zR D (zKT cI cJ cZ cP cS) po [(rd, .inr (3, [.ref ri, .ref rl, .int rz, .int rc, .int rp, .int rf, .int rt, .int ru]))])) (vp_Si (fun r => -1 ≤ r.toInt ∧ r.toInt ≤ 39 ∧ (r.toInt = rt.toInt - 1))) 0 0 (fun _ => False) := by
  refine Met.ofW (cc := cX3_mostOf) (maxL := 3) (ret := (some .int)) (by decide) rfl ?_
  intro p e s m args below meth c s₁ B hml hv
  obtain ⟨rfl, hP, hK, hN, hZ⟩ := hv
  have hx := B.exec
  have hb := B.bytes
  have hr := B.returns
  have hts := atoms_spec (ws := wsX3_mostOf) B.pre
  have hown : s.vm.findClass RX3 = some m.cls := findClass_of_methodNamed B.named
  have hlocks := B.notSynchronized
  have hl := lv_entry ([.ref rd, .int 2, .int 0]) (n := 3) (Nat.le_of_ble_eq_true rfl)
  rw [lg_entry_eq]
  generalize (lg_sl ([.ref rd, .int 2, .int 0]) ++ List.replicate (3 - (lg_sl ([.ref rd, .int 2, .int 0])).length) Slot.unset).toArray = ls at hl ⊢
  replace hl : lv_has ls 3 [(0, .ref rd), (1, .int 2), (2, .int 0)] := hl
  refine lv_iload_n hx hb dX3_mostOf_0 rfl (lv_at hl 1 rfl) ?_
  refine lv_tableIn (tgt := 62) hx hb dX3_mostOf_1 (by decide) (by decide) rfl (by decide) ?_
  refine lv_iload_n hx hb dX3_mostOf_62 rfl (lv_at hl 2 rfl) ?_
  refine lv_if_ne (tgt := 75) hx hb dX3_mostOf_63 (by decide) (fun c_1 => ?_) (fun c_1 => ?_)
  · exact absurd c_1 (by decide)
  · refine lv_aload_n hx hb dX3_mostOf_66 rfl (lv_at hl 0 rfl) ?_
    refine va_get (D := D) (ci := 3) (v := .int rt) (C := RX3) (T := TX3) (N := 8) hx hb hts hi_X3_mostOf_3 hown hK hP 0 rfl rfl 6 (by decide) (hts (.fieldLink RX3 31 "TheLiningsInIt$Reader" "teeth" "I") (List.mem_of_getElem? (i := 1) rfl)) (fun _ h9 => h9) rfl dX3_mostOf_67 ?_
    refine lv_iconst (v := 1) hx hb dX3_mostOf_70 (by decide) ?_
    refine lv_isub hx hb dX3_mostOf_71 ?_
    refine lv_topi (fun x_2 ex_2 => ?_)
    have qx_2 : x_2.toInt = rt.toInt - 1 := by rw [ex_2]; exact zf_sub rfl (by decide) (by omega) (by omega)
    refine lv_goto (tgt := 77) hx hb dX3_mostOf_72 (by decide) ?_
    exact W.iret (v := x_2) hx hb hr (fun t ht hW => ⟨x_2, rfl, ⟨by omega, by omega, (show (x_2 : Int32).toInt = rt.toInt - 1 from by omega)⟩, ht⟩) (fun q hq => by cases hq) dX3_mostOf_77
set_option maxHeartbeats 4000000 in
set_option maxRecDepth 100000 in
theorem c_R_leastOf_2_1 (l : Launch) (D : va_G) (cI cJ cZ cP cS : ClassId) (po : zPool)   : Met l yX3_leastOf wsX3_leastOf ({ frames := 0, cells := 0, slots := 0, locals := 0 }) (va_Pc [.int 2, .int 1] (zR D (zKT cI cJ cZ cP cS) po [])) (vp_Si (fun r => r = 0)) 0 0 (fun _ => False) := by
  refine Met.ofW (cc := cX3_leastOf) (maxL := 2) (ret := (some .int)) (by decide) rfl ?_
  intro p e s m args below meth c s₁ B hml hv
  obtain ⟨rfl, hP, hK, hN, hZ⟩ := hv
  have hx := B.exec
  have hb := B.bytes
  have hr := B.returns
  have hts := atoms_spec (ws := wsX3_leastOf) B.pre
  have hown : s.vm.findClass RX3 = some m.cls := findClass_of_methodNamed B.named
  have hlocks := B.notSynchronized
  have hl := lv_entry ([.int 2, .int 1]) (n := 2) (Nat.le_of_ble_eq_true rfl)
  rw [lg_entry_eq]
  generalize (lg_sl ([.int 2, .int 1]) ++ List.replicate (2 - (lg_sl ([.int 2, .int 1])).length) Slot.unset).toArray = ls at hl ⊢
  replace hl : lv_has ls 2 [(0, .int 2), (1, .int 1)] := hl
  refine lv_iload_n hx hb dX3_leastOf_0 rfl (lv_at hl 0 rfl) ?_
  refine lv_if_ne (tgt := 6) hx hb dX3_leastOf_1 (by decide) (fun c_1 => ?_) (fun c_1 => ?_)
  · refine lv_iload_n hx hb dX3_leastOf_6 rfl (lv_at hl 0 rfl) ?_
    refine lv_bipush (v := 7) hx hb dX3_leastOf_7 (by decide) ?_
    refine lv_icmp_eq (tgt := 22) hx hb dX3_leastOf_9 (by decide) (fun c_2 => ?_) (fun c_2 => ?_)
    · exact absurd c_2 (by decide)
    · refine lv_iload_n hx hb dX3_leastOf_12 rfl (lv_at hl 0 rfl) ?_
      refine lv_iconst (v := 3) hx hb dX3_leastOf_13 (by decide) ?_
      refine lv_icmp_ne (tgt := 26) hx hb dX3_leastOf_14 (by decide) (fun c_3 => ?_) (fun c_3 => ?_)
      · refine lv_iconst (v := 0) hx hb dX3_leastOf_26 (by decide) ?_
        exact W.iret (v := 0) hx hb hr (fun t ht hW => ⟨0, rfl, rfl, ht⟩) (fun q hq => by cases hq) dX3_leastOf_27
      · exact absurd c_3 (by decide)
  · exact absurd c_1 (by decide)
set_option maxHeartbeats 4000000 in
set_option maxRecDepth 100000 in
theorem c_R_mostOf_2_1 (l : Launch) (D : va_G) (cI cJ cZ cP cS : ClassId) (po : zPool) (rd ri rl : Nat) (rz rc rp rf rt ru : Int32) (hy0 : 0 ≤ rz.toInt) (hy1 : rz.toInt ≤ 160) (hy2 : 0 ≤ rc.toInt) (hy3 : rc.toInt ≤ 40) (hy4 : 0 ≤ rp.toInt) (hy5 : rp.toInt ≤ 160) (hy6 : rp.toInt ≤ rz.toInt) (hy7 : (-1) ≤ rf.toInt) (hy8 : rf.toInt ≤ 160) (hy9 : 0 ≤ rt.toInt) (hy10 : rt.toInt ≤ 40) (hy11 : 0 ≤ ru.toInt) (hy12 : ru.toInt ≤ 8) : Met l yX3_mostOf wsX3_mostOf ({ frames := 0, cells := 0, slots := 0, locals := 0 }) (va_Pc [.ref rd, .int 2, .int 1] (zR D (zKT cI cJ cZ cP cS) po [(rd, .inr (3, [.ref ri, .ref rl, .int rz, .int rc, .int rp, .int rf, .int rt, .int ru]))])) (vp_Si (fun r => r = 9)) 0 0 (fun _ => False) := by
  refine Met.ofW (cc := cX3_mostOf) (maxL := 3) (ret := (some .int)) (by decide) rfl ?_
  intro p e s m args below meth c s₁ B hml hv
  obtain ⟨rfl, hP, hK, hN, hZ⟩ := hv
  have hx := B.exec
  have hb := B.bytes
  have hr := B.returns
  have hts := atoms_spec (ws := wsX3_mostOf) B.pre
  have hown : s.vm.findClass RX3 = some m.cls := findClass_of_methodNamed B.named
  have hlocks := B.notSynchronized
  have hl := lv_entry ([.ref rd, .int 2, .int 1]) (n := 3) (Nat.le_of_ble_eq_true rfl)
  rw [lg_entry_eq]
  generalize (lg_sl ([.ref rd, .int 2, .int 1]) ++ List.replicate (3 - (lg_sl ([.ref rd, .int 2, .int 1])).length) Slot.unset).toArray = ls at hl ⊢
  replace hl : lv_has ls 3 [(0, .ref rd), (1, .int 2), (2, .int 1)] := hl
  refine lv_iload_n hx hb dX3_mostOf_0 rfl (lv_at hl 1 rfl) ?_
  refine lv_tableIn (tgt := 62) hx hb dX3_mostOf_1 (by decide) (by decide) rfl (by decide) ?_
  refine lv_iload_n hx hb dX3_mostOf_62 rfl (lv_at hl 2 rfl) ?_
  refine lv_if_ne (tgt := 75) hx hb dX3_mostOf_63 (by decide) (fun c_1 => ?_) (fun c_1 => ?_)
  · refine lv_bipush (v := 9) hx hb dX3_mostOf_75 (by decide) ?_
    exact W.iret (v := 9) hx hb hr (fun t ht hW => ⟨9, rfl, rfl, ht⟩) (fun q hq => by cases hq) dX3_mostOf_77
  · exact absurd c_1 (by decide)
set_option maxHeartbeats 4000000 in
set_option maxRecDepth 100000 in
theorem c_R_leastOf_3_0 (l : Launch) (D : va_G) (cI cJ cZ cP cS : ClassId) (po : zPool)   : Met l yX3_leastOf wsX3_leastOf ({ frames := 0, cells := 0, slots := 0, locals := 0 }) (va_Pc [.int 3, .int 0] (zR D (zKT cI cJ cZ cP cS) po [])) (vp_Si (fun r => r = 0)) 0 0 (fun _ => False) := by
  refine Met.ofW (cc := cX3_leastOf) (maxL := 2) (ret := (some .int)) (by decide) rfl ?_
  intro p e s m args below meth c s₁ B hml hv
  obtain ⟨rfl, hP, hK, hN, hZ⟩ := hv
  have hx := B.exec
  have hb := B.bytes
  have hr := B.returns
  have hts := atoms_spec (ws := wsX3_leastOf) B.pre
  have hown : s.vm.findClass RX3 = some m.cls := findClass_of_methodNamed B.named
  have hlocks := B.notSynchronized
  have hl := lv_entry ([.int 3, .int 0]) (n := 2) (Nat.le_of_ble_eq_true rfl)
  rw [lg_entry_eq]
  generalize (lg_sl ([.int 3, .int 0]) ++ List.replicate (2 - (lg_sl ([.int 3, .int 0])).length) Slot.unset).toArray = ls at hl ⊢
  replace hl : lv_has ls 2 [(0, .int 3), (1, .int 0)] := hl
  refine lv_iload_n hx hb dX3_leastOf_0 rfl (lv_at hl 0 rfl) ?_
  refine lv_if_ne (tgt := 6) hx hb dX3_leastOf_1 (by decide) (fun c_1 => ?_) (fun c_1 => ?_)
  · refine lv_iload_n hx hb dX3_leastOf_6 rfl (lv_at hl 0 rfl) ?_
    refine lv_bipush (v := 7) hx hb dX3_leastOf_7 (by decide) ?_
    refine lv_icmp_eq (tgt := 22) hx hb dX3_leastOf_9 (by decide) (fun c_2 => ?_) (fun c_2 => ?_)
    · exact absurd c_2 (by decide)
    · refine lv_iload_n hx hb dX3_leastOf_12 rfl (lv_at hl 0 rfl) ?_
      refine lv_iconst (v := 3) hx hb dX3_leastOf_13 (by decide) ?_
      refine lv_icmp_ne (tgt := 26) hx hb dX3_leastOf_14 (by decide) (fun c_3 => ?_) (fun c_3 => ?_)
      · exact absurd c_3 (by decide)
      · refine lv_iload_n hx hb dX3_leastOf_17 rfl (lv_at hl 1 rfl) ?_
        refine lv_iconst (v := 2) hx hb dX3_leastOf_18 (by decide) ?_
        refine lv_icmp_ne (tgt := 26) hx hb dX3_leastOf_19 (by decide) (fun c_4 => ?_) (fun c_4 => ?_)
        · refine lv_iconst (v := 0) hx hb dX3_leastOf_26 (by decide) ?_
          exact W.iret (v := 0) hx hb hr (fun t ht hW => ⟨0, rfl, rfl, ht⟩) (fun q hq => by cases hq) dX3_leastOf_27
        · exact absurd c_4 (by decide)
  · exact absurd c_1 (by decide)
set_option maxHeartbeats 4000000 in
set_option maxRecDepth 100000 in
theorem c_R_mostOf_3_0 (l : Launch) (D : va_G) (cI cJ cZ cP cS : ClassId) (po : zPool) (rd ri rl : Nat) (rz rc rp rf rt ru : Int32) (hy0 : 0 ≤ rz.toInt) (hy1 : rz.toInt ≤ 160) (hy2 : 0 ≤ rc.toInt) (hy3 : rc.toInt ≤ 40) (hy4 : 0 ≤ rp.toInt) (hy5 : rp.toInt ≤ 160) (hy6 : rp.toInt ≤ rz.toInt) (hy7 : (-1) ≤ rf.toInt) (hy8 : rf.toInt ≤ 160) (hy9 : 0 ≤ rt.toInt) (hy10 : rt.toInt ≤ 40) (hy11 : 0 ≤ ru.toInt) (hy12 : ru.toInt ≤ 8) : Met l yX3_mostOf wsX3_mostOf ({ frames := 0, cells := 0, slots := 0, locals := 0 }) (va_Pc [.ref rd, .int 3, .int 0] (zR D (zKT cI cJ cZ cP cS) po [(rd, .inr (3, [.ref ri, .ref rl, .int rz, .int rc, .int rp, .int rf, .int rt, .int ru]))])) (vp_Si (fun r => r = 6)) 0 0 (fun _ => False) := by
  refine Met.ofW (cc := cX3_mostOf) (maxL := 3) (ret := (some .int)) (by decide) rfl ?_
  intro p e s m args below meth c s₁ B hml hv
  obtain ⟨rfl, hP, hK, hN, hZ⟩ := hv
  have hx := B.exec
  have hb := B.bytes
  have hr := B.returns
  have hts := atoms_spec (ws := wsX3_mostOf) B.pre
  have hown : s.vm.findClass RX3 = some m.cls := findClass_of_methodNamed B.named
  have hlocks := B.notSynchronized
  have hl := lv_entry ([.ref rd, .int 3, .int 0]) (n := 3) (Nat.le_of_ble_eq_true rfl)
  rw [lg_entry_eq]
  generalize (lg_sl ([.ref rd, .int 3, .int 0]) ++ List.replicate (3 - (lg_sl ([.ref rd, .int 3, .int 0])).length) Slot.unset).toArray = ls at hl ⊢
  replace hl : lv_has ls 3 [(0, .ref rd), (1, .int 3), (2, .int 0)] := hl
  refine lv_iload_n hx hb dX3_mostOf_0 rfl (lv_at hl 1 rfl) ?_
  refine lv_tableIn (tgt := 78) hx hb dX3_mostOf_1 (by decide) (by decide) rfl (by decide) ?_
  refine lv_iload_n hx hb dX3_mostOf_78 rfl (lv_at hl 2 rfl) ?_
  refine lv_if_ne (tgt := 87) hx hb dX3_mostOf_79 (by decide) (fun c_1 => ?_) (fun c_1 => ?_)
  · exact absurd c_1 (by decide)
  · refine lv_bipush (v := 6) hx hb dX3_mostOf_82 (by decide) ?_
    refine lv_goto (tgt := 99) hx hb dX3_mostOf_84 (by decide) ?_
    exact W.iret (v := 6) hx hb hr (fun t ht hW => ⟨6, rfl, rfl, ht⟩) (fun q hq => by cases hq) dX3_mostOf_99
set_option maxHeartbeats 4000000 in
set_option maxRecDepth 100000 in
theorem c_R_leastOf_3_1 (l : Launch) (D : va_G) (cI cJ cZ cP cS : ClassId) (po : zPool)   : Met l yX3_leastOf wsX3_leastOf ({ frames := 0, cells := 0, slots := 0, locals := 0 }) (va_Pc [.int 3, .int 1] (zR D (zKT cI cJ cZ cP cS) po [])) (vp_Si (fun r => r = 0)) 0 0 (fun _ => False) := by
  refine Met.ofW (cc := cX3_leastOf) (maxL := 2) (ret := (some .int)) (by decide) rfl ?_
  intro p e s m args below meth c s₁ B hml hv
  obtain ⟨rfl, hP, hK, hN, hZ⟩ := hv
  have hx := B.exec
  have hb := B.bytes
  have hr := B.returns
  have hts := atoms_spec (ws := wsX3_leastOf) B.pre
  have hown : s.vm.findClass RX3 = some m.cls := findClass_of_methodNamed B.named
  have hlocks := B.notSynchronized
  have hl := lv_entry ([.int 3, .int 1]) (n := 2) (Nat.le_of_ble_eq_true rfl)
  rw [lg_entry_eq]
  generalize (lg_sl ([.int 3, .int 1]) ++ List.replicate (2 - (lg_sl ([.int 3, .int 1])).length) Slot.unset).toArray = ls at hl ⊢
  replace hl : lv_has ls 2 [(0, .int 3), (1, .int 1)] := hl
  refine lv_iload_n hx hb dX3_leastOf_0 rfl (lv_at hl 0 rfl) ?_
  refine lv_if_ne (tgt := 6) hx hb dX3_leastOf_1 (by decide) (fun c_1 => ?_) (fun c_1 => ?_)
  · refine lv_iload_n hx hb dX3_leastOf_6 rfl (lv_at hl 0 rfl) ?_
    refine lv_bipush (v := 7) hx hb dX3_leastOf_7 (by decide) ?_
    refine lv_icmp_eq (tgt := 22) hx hb dX3_leastOf_9 (by decide) (fun c_2 => ?_) (fun c_2 => ?_)
    · exact absurd c_2 (by decide)
    · refine lv_iload_n hx hb dX3_leastOf_12 rfl (lv_at hl 0 rfl) ?_
      refine lv_iconst (v := 3) hx hb dX3_leastOf_13 (by decide) ?_
      refine lv_icmp_ne (tgt := 26) hx hb dX3_leastOf_14 (by decide) (fun c_3 => ?_) (fun c_3 => ?_)
      · exact absurd c_3 (by decide)
      · refine lv_iload_n hx hb dX3_leastOf_17 rfl (lv_at hl 1 rfl) ?_
        refine lv_iconst (v := 2) hx hb dX3_leastOf_18 (by decide) ?_
        refine lv_icmp_ne (tgt := 26) hx hb dX3_leastOf_19 (by decide) (fun c_4 => ?_) (fun c_4 => ?_)
        · refine lv_iconst (v := 0) hx hb dX3_leastOf_26 (by decide) ?_
          exact W.iret (v := 0) hx hb hr (fun t ht hW => ⟨0, rfl, rfl, ht⟩) (fun q hq => by cases hq) dX3_leastOf_27
        · exact absurd c_4 (by decide)
  · exact absurd c_1 (by decide)
set_option maxHeartbeats 4000000 in
set_option maxRecDepth 100000 in
theorem c_R_mostOf_3_1 (l : Launch) (D : va_G) (cI cJ cZ cP cS : ClassId) (po : zPool) (rd ri rl : Nat) (rz rc rp rf rt ru : Int32) (hy0 : 0 ≤ rz.toInt) (hy1 : rz.toInt ≤ 160) (hy2 : 0 ≤ rc.toInt) (hy3 : rc.toInt ≤ 40) (hy4 : 0 ≤ rp.toInt) (hy5 : rp.toInt ≤ 160) (hy6 : rp.toInt ≤ rz.toInt) (hy7 : (-1) ≤ rf.toInt) (hy8 : rf.toInt ≤ 160) (hy9 : 0 ≤ rt.toInt) (hy10 : rt.toInt ≤ 40) (hy11 : 0 ≤ ru.toInt) (hy12 : ru.toInt ≤ 8) : Met l yX3_mostOf wsX3_mostOf ({ frames := 0, cells := 0, slots := 0, locals := 0 }) (va_Pc [.ref rd, .int 3, .int 1] (zR D (zKT cI cJ cZ cP cS) po [(rd, .inr (3, [.ref ri, .ref rl, .int rz, .int rc, .int rp, .int rf, .int rt, .int ru]))])) (vp_Si (fun r => r = 9)) 0 0 (fun _ => False) := by
  refine Met.ofW (cc := cX3_mostOf) (maxL := 3) (ret := (some .int)) (by decide) rfl ?_
  intro p e s m args below meth c s₁ B hml hv
  obtain ⟨rfl, hP, hK, hN, hZ⟩ := hv
  have hx := B.exec
  have hb := B.bytes
  have hr := B.returns
  have hts := atoms_spec (ws := wsX3_mostOf) B.pre
  have hown : s.vm.findClass RX3 = some m.cls := findClass_of_methodNamed B.named
  have hlocks := B.notSynchronized
  have hl := lv_entry ([.ref rd, .int 3, .int 1]) (n := 3) (Nat.le_of_ble_eq_true rfl)
  rw [lg_entry_eq]
  generalize (lg_sl ([.ref rd, .int 3, .int 1]) ++ List.replicate (3 - (lg_sl ([.ref rd, .int 3, .int 1])).length) Slot.unset).toArray = ls at hl ⊢
  replace hl : lv_has ls 3 [(0, .ref rd), (1, .int 3), (2, .int 1)] := hl
  refine lv_iload_n hx hb dX3_mostOf_0 rfl (lv_at hl 1 rfl) ?_
  refine lv_tableIn (tgt := 78) hx hb dX3_mostOf_1 (by decide) (by decide) rfl (by decide) ?_
  refine lv_iload_n hx hb dX3_mostOf_78 rfl (lv_at hl 2 rfl) ?_
  refine lv_if_ne (tgt := 87) hx hb dX3_mostOf_79 (by decide) (fun c_1 => ?_) (fun c_1 => ?_)
  · refine lv_iload_n hx hb dX3_mostOf_87 rfl (lv_at hl 2 rfl) ?_
    refine lv_iconst (v := 1) hx hb dX3_mostOf_88 (by decide) ?_
    refine lv_icmp_ne (tgt := 97) hx hb dX3_mostOf_89 (by decide) (fun c_2 => ?_) (fun c_2 => ?_)
    · exact absurd c_2 (by decide)
    · refine lv_bipush (v := 9) hx hb dX3_mostOf_92 (by decide) ?_
      refine lv_goto (tgt := 99) hx hb dX3_mostOf_94 (by decide) ?_
      exact W.iret (v := 9) hx hb hr (fun t ht hW => ⟨9, rfl, rfl, ht⟩) (fun q hq => by cases hq) dX3_mostOf_99
  · exact absurd c_1 (by decide)
set_option maxHeartbeats 4000000 in
set_option maxRecDepth 100000 in
theorem c_R_leastOf_3_2 (l : Launch) (D : va_G) (cI cJ cZ cP cS : ClassId) (po : zPool)   : Met l yX3_leastOf wsX3_leastOf ({ frames := 0, cells := 0, slots := 0, locals := 0 }) (va_Pc [.int 3, .int 2] (zR D (zKT cI cJ cZ cP cS) po [])) (vp_Si (fun r => r = 1)) 0 0 (fun _ => False) := by
  refine Met.ofW (cc := cX3_leastOf) (maxL := 2) (ret := (some .int)) (by decide) rfl ?_
  intro p e s m args below meth c s₁ B hml hv
  obtain ⟨rfl, hP, hK, hN, hZ⟩ := hv
  have hx := B.exec
  have hb := B.bytes
  have hr := B.returns
  have hts := atoms_spec (ws := wsX3_leastOf) B.pre
  have hown : s.vm.findClass RX3 = some m.cls := findClass_of_methodNamed B.named
  have hlocks := B.notSynchronized
  have hl := lv_entry ([.int 3, .int 2]) (n := 2) (Nat.le_of_ble_eq_true rfl)
  rw [lg_entry_eq]
  generalize (lg_sl ([.int 3, .int 2]) ++ List.replicate (2 - (lg_sl ([.int 3, .int 2])).length) Slot.unset).toArray = ls at hl ⊢
  replace hl : lv_has ls 2 [(0, .int 3), (1, .int 2)] := hl
  refine lv_iload_n hx hb dX3_leastOf_0 rfl (lv_at hl 0 rfl) ?_
  refine lv_if_ne (tgt := 6) hx hb dX3_leastOf_1 (by decide) (fun c_1 => ?_) (fun c_1 => ?_)
  · refine lv_iload_n hx hb dX3_leastOf_6 rfl (lv_at hl 0 rfl) ?_
    refine lv_bipush (v := 7) hx hb dX3_leastOf_7 (by decide) ?_
    refine lv_icmp_eq (tgt := 22) hx hb dX3_leastOf_9 (by decide) (fun c_2 => ?_) (fun c_2 => ?_)
    · exact absurd c_2 (by decide)
    · refine lv_iload_n hx hb dX3_leastOf_12 rfl (lv_at hl 0 rfl) ?_
      refine lv_iconst (v := 3) hx hb dX3_leastOf_13 (by decide) ?_
      refine lv_icmp_ne (tgt := 26) hx hb dX3_leastOf_14 (by decide) (fun c_3 => ?_) (fun c_3 => ?_)
      · exact absurd c_3 (by decide)
      · refine lv_iload_n hx hb dX3_leastOf_17 rfl (lv_at hl 1 rfl) ?_
        refine lv_iconst (v := 2) hx hb dX3_leastOf_18 (by decide) ?_
        refine lv_icmp_ne (tgt := 26) hx hb dX3_leastOf_19 (by decide) (fun c_4 => ?_) (fun c_4 => ?_)
        · exact absurd c_4 (by decide)
        · refine lv_iconst (v := 1) hx hb dX3_leastOf_22 (by decide) ?_
          refine lv_goto (tgt := 27) hx hb dX3_leastOf_23 (by decide) ?_
          exact W.iret (v := 1) hx hb hr (fun t ht hW => ⟨1, rfl, rfl, ht⟩) (fun q hq => by cases hq) dX3_leastOf_27
  · exact absurd c_1 (by decide)
set_option maxHeartbeats 4000000 in
set_option maxRecDepth 100000 in
theorem c_R_mostOf_3_2 (l : Launch) (D : va_G) (cI cJ cZ cP cS : ClassId) (po : zPool) (rd ri rl : Nat) (rz rc rp rf rt ru : Int32) (hy0 : 0 ≤ rz.toInt) (hy1 : rz.toInt ≤ 160) (hy2 : 0 ≤ rc.toInt) (hy3 : rc.toInt ≤ 40) (hy4 : 0 ≤ rp.toInt) (hy5 : rp.toInt ≤ 160) (hy6 : rp.toInt ≤ rz.toInt) (hy7 : (-1) ≤ rf.toInt) (hy8 : rf.toInt ≤ 160) (hy9 : 0 ≤ rt.toInt) (hy10 : rt.toInt ≤ 40) (hy11 : 0 ≤ ru.toInt) (hy12 : ru.toInt ≤ 8) : Met l yX3_mostOf wsX3_mostOf ({ frames := 0, cells := 0, slots := 0, locals := 0 }) (va_Pc [.ref rd, .int 3, .int 2] (zR D (zKT cI cJ cZ cP cS) po [(rd, .inr (3, [.ref ri, .ref rl, .int rz, .int rc, .int rp, .int rf, .int rt, .int ru]))])) (vp_Si (fun r => r = 60)) 0 0 (fun _ => False) := by
  refine Met.ofW (cc := cX3_mostOf) (maxL := 3) (ret := (some .int)) (by decide) rfl ?_
  intro p e s m args below meth c s₁ B hml hv
  obtain ⟨rfl, hP, hK, hN, hZ⟩ := hv
  have hx := B.exec
  have hb := B.bytes
  have hr := B.returns
  have hts := atoms_spec (ws := wsX3_mostOf) B.pre
  have hown : s.vm.findClass RX3 = some m.cls := findClass_of_methodNamed B.named
  have hlocks := B.notSynchronized
  have hl := lv_entry ([.ref rd, .int 3, .int 2]) (n := 3) (Nat.le_of_ble_eq_true rfl)
  rw [lg_entry_eq]
  generalize (lg_sl ([.ref rd, .int 3, .int 2]) ++ List.replicate (3 - (lg_sl ([.ref rd, .int 3, .int 2])).length) Slot.unset).toArray = ls at hl ⊢
  replace hl : lv_has ls 3 [(0, .ref rd), (1, .int 3), (2, .int 2)] := hl
  refine lv_iload_n hx hb dX3_mostOf_0 rfl (lv_at hl 1 rfl) ?_
  refine lv_tableIn (tgt := 78) hx hb dX3_mostOf_1 (by decide) (by decide) rfl (by decide) ?_
  refine lv_iload_n hx hb dX3_mostOf_78 rfl (lv_at hl 2 rfl) ?_
  refine lv_if_ne (tgt := 87) hx hb dX3_mostOf_79 (by decide) (fun c_1 => ?_) (fun c_1 => ?_)
  · refine lv_iload_n hx hb dX3_mostOf_87 rfl (lv_at hl 2 rfl) ?_
    refine lv_iconst (v := 1) hx hb dX3_mostOf_88 (by decide) ?_
    refine lv_icmp_ne (tgt := 97) hx hb dX3_mostOf_89 (by decide) (fun c_2 => ?_) (fun c_2 => ?_)
    · refine lv_bipush (v := 60) hx hb dX3_mostOf_97 (by decide) ?_
      exact W.iret (v := 60) hx hb hr (fun t ht hW => ⟨60, rfl, rfl, ht⟩) (fun q hq => by cases hq) dX3_mostOf_99
    · exact absurd c_2 (by decide)
  · exact absurd c_1 (by decide)
set_option maxHeartbeats 4000000 in
set_option maxRecDepth 100000 in
theorem c_R_leastOf_4_0 (l : Launch) (D : va_G) (cI cJ cZ cP cS : ClassId) (po : zPool)   : Met l yX3_leastOf wsX3_leastOf ({ frames := 0, cells := 0, slots := 0, locals := 0 }) (va_Pc [.int 4, .int 0] (zR D (zKT cI cJ cZ cP cS) po [])) (vp_Si (fun r => r = 0)) 0 0 (fun _ => False) := by
  refine Met.ofW (cc := cX3_leastOf) (maxL := 2) (ret := (some .int)) (by decide) rfl ?_
  intro p e s m args below meth c s₁ B hml hv
  obtain ⟨rfl, hP, hK, hN, hZ⟩ := hv
  have hx := B.exec
  have hb := B.bytes
  have hr := B.returns
  have hts := atoms_spec (ws := wsX3_leastOf) B.pre
  have hown : s.vm.findClass RX3 = some m.cls := findClass_of_methodNamed B.named
  have hlocks := B.notSynchronized
  have hl := lv_entry ([.int 4, .int 0]) (n := 2) (Nat.le_of_ble_eq_true rfl)
  rw [lg_entry_eq]
  generalize (lg_sl ([.int 4, .int 0]) ++ List.replicate (2 - (lg_sl ([.int 4, .int 0])).length) Slot.unset).toArray = ls at hl ⊢
  replace hl : lv_has ls 2 [(0, .int 4), (1, .int 0)] := hl
  refine lv_iload_n hx hb dX3_leastOf_0 rfl (lv_at hl 0 rfl) ?_
  refine lv_if_ne (tgt := 6) hx hb dX3_leastOf_1 (by decide) (fun c_1 => ?_) (fun c_1 => ?_)
  · refine lv_iload_n hx hb dX3_leastOf_6 rfl (lv_at hl 0 rfl) ?_
    refine lv_bipush (v := 7) hx hb dX3_leastOf_7 (by decide) ?_
    refine lv_icmp_eq (tgt := 22) hx hb dX3_leastOf_9 (by decide) (fun c_2 => ?_) (fun c_2 => ?_)
    · exact absurd c_2 (by decide)
    · refine lv_iload_n hx hb dX3_leastOf_12 rfl (lv_at hl 0 rfl) ?_
      refine lv_iconst (v := 3) hx hb dX3_leastOf_13 (by decide) ?_
      refine lv_icmp_ne (tgt := 26) hx hb dX3_leastOf_14 (by decide) (fun c_3 => ?_) (fun c_3 => ?_)
      · refine lv_iconst (v := 0) hx hb dX3_leastOf_26 (by decide) ?_
        exact W.iret (v := 0) hx hb hr (fun t ht hW => ⟨0, rfl, rfl, ht⟩) (fun q hq => by cases hq) dX3_leastOf_27
      · exact absurd c_3 (by decide)
  · exact absurd c_1 (by decide)
set_option maxHeartbeats 4000000 in
set_option maxRecDepth 100000 in
theorem c_R_mostOf_4_0 (l : Launch) (D : va_G) (cI cJ cZ cP cS : ClassId) (po : zPool) (rd ri rl : Nat) (rz rc rp rf rt ru : Int32) (hy0 : 0 ≤ rz.toInt) (hy1 : rz.toInt ≤ 160) (hy2 : 0 ≤ rc.toInt) (hy3 : rc.toInt ≤ 40) (hy4 : 0 ≤ rp.toInt) (hy5 : rp.toInt ≤ 160) (hy6 : rp.toInt ≤ rz.toInt) (hy7 : (-1) ≤ rf.toInt) (hy8 : rf.toInt ≤ 160) (hy9 : 0 ≤ rt.toInt) (hy10 : rt.toInt ≤ 40) (hy11 : 0 ≤ ru.toInt) (hy12 : ru.toInt ≤ 8) : Met l yX3_mostOf wsX3_mostOf ({ frames := 0, cells := 0, slots := 0, locals := 0 }) (va_Pc [.ref rd, .int 4, .int 0] (zR D (zKT cI cJ cZ cP cS) po [(rd, .inr (3, [.ref ri, .ref rl, .int rz, .int rc, .int rp, .int rf, .int rt, .int ru]))])) (vp_Si (fun r => r = 24)) 0 0 (fun _ => False) := by
  refine Met.ofW (cc := cX3_mostOf) (maxL := 3) (ret := (some .int)) (by decide) rfl ?_
  intro p e s m args below meth c s₁ B hml hv
  obtain ⟨rfl, hP, hK, hN, hZ⟩ := hv
  have hx := B.exec
  have hb := B.bytes
  have hr := B.returns
  have hts := atoms_spec (ws := wsX3_mostOf) B.pre
  have hown : s.vm.findClass RX3 = some m.cls := findClass_of_methodNamed B.named
  have hlocks := B.notSynchronized
  have hl := lv_entry ([.ref rd, .int 4, .int 0]) (n := 3) (Nat.le_of_ble_eq_true rfl)
  rw [lg_entry_eq]
  generalize (lg_sl ([.ref rd, .int 4, .int 0]) ++ List.replicate (3 - (lg_sl ([.ref rd, .int 4, .int 0])).length) Slot.unset).toArray = ls at hl ⊢
  replace hl : lv_has ls 3 [(0, .ref rd), (1, .int 4), (2, .int 0)] := hl
  refine lv_iload_n hx hb dX3_mostOf_0 rfl (lv_at hl 1 rfl) ?_
  refine lv_tableIn (tgt := 100) hx hb dX3_mostOf_1 (by decide) (by decide) rfl (by decide) ?_
  refine lv_bipush (v := 24) hx hb dX3_mostOf_100 (by decide) ?_
  exact W.iret (v := 24) hx hb hr (fun t ht hW => ⟨24, rfl, rfl, ht⟩) (fun q hq => by cases hq) dX3_mostOf_102
set_option maxHeartbeats 4000000 in
set_option maxRecDepth 100000 in
theorem c_R_leastOf_5_0 (l : Launch) (D : va_G) (cI cJ cZ cP cS : ClassId) (po : zPool)   : Met l yX3_leastOf wsX3_leastOf ({ frames := 0, cells := 0, slots := 0, locals := 0 }) (va_Pc [.int 5, .int 0] (zR D (zKT cI cJ cZ cP cS) po [])) (vp_Si (fun r => r = 0)) 0 0 (fun _ => False) := by
  refine Met.ofW (cc := cX3_leastOf) (maxL := 2) (ret := (some .int)) (by decide) rfl ?_
  intro p e s m args below meth c s₁ B hml hv
  obtain ⟨rfl, hP, hK, hN, hZ⟩ := hv
  have hx := B.exec
  have hb := B.bytes
  have hr := B.returns
  have hts := atoms_spec (ws := wsX3_leastOf) B.pre
  have hown : s.vm.findClass RX3 = some m.cls := findClass_of_methodNamed B.named
  have hlocks := B.notSynchronized
  have hl := lv_entry ([.int 5, .int 0]) (n := 2) (Nat.le_of_ble_eq_true rfl)
  rw [lg_entry_eq]
  generalize (lg_sl ([.int 5, .int 0]) ++ List.replicate (2 - (lg_sl ([.int 5, .int 0])).length) Slot.unset).toArray = ls at hl ⊢
  replace hl : lv_has ls 2 [(0, .int 5), (1, .int 0)] := hl
  refine lv_iload_n hx hb dX3_leastOf_0 rfl (lv_at hl 0 rfl) ?_
  refine lv_if_ne (tgt := 6) hx hb dX3_leastOf_1 (by decide) (fun c_1 => ?_) (fun c_1 => ?_)
  · refine lv_iload_n hx hb dX3_leastOf_6 rfl (lv_at hl 0 rfl) ?_
    refine lv_bipush (v := 7) hx hb dX3_leastOf_7 (by decide) ?_
    refine lv_icmp_eq (tgt := 22) hx hb dX3_leastOf_9 (by decide) (fun c_2 => ?_) (fun c_2 => ?_)
    · exact absurd c_2 (by decide)
    · refine lv_iload_n hx hb dX3_leastOf_12 rfl (lv_at hl 0 rfl) ?_
      refine lv_iconst (v := 3) hx hb dX3_leastOf_13 (by decide) ?_
      refine lv_icmp_ne (tgt := 26) hx hb dX3_leastOf_14 (by decide) (fun c_3 => ?_) (fun c_3 => ?_)
      · refine lv_iconst (v := 0) hx hb dX3_leastOf_26 (by decide) ?_
        exact W.iret (v := 0) hx hb hr (fun t ht hW => ⟨0, rfl, rfl, ht⟩) (fun q hq => by cases hq) dX3_leastOf_27
      · exact absurd c_3 (by decide)
  · exact absurd c_1 (by decide)
set_option maxHeartbeats 4000000 in
set_option maxRecDepth 100000 in
theorem c_R_mostOf_5_0 (l : Launch) (D : va_G) (cI cJ cZ cP cS : ClassId) (po : zPool) (rd ri rl : Nat) (rz rc rp rf rt ru : Int32) (hy0 : 0 ≤ rz.toInt) (hy1 : rz.toInt ≤ 160) (hy2 : 0 ≤ rc.toInt) (hy3 : rc.toInt ≤ 40) (hy4 : 0 ≤ rp.toInt) (hy5 : rp.toInt ≤ 160) (hy6 : rp.toInt ≤ rz.toInt) (hy7 : (-1) ≤ rf.toInt) (hy8 : rf.toInt ≤ 160) (hy9 : 0 ≤ rt.toInt) (hy10 : rt.toInt ≤ 40) (hy11 : 0 ≤ ru.toInt) (hy12 : ru.toInt ≤ 8) : Met l yX3_mostOf wsX3_mostOf ({ frames := 0, cells := 0, slots := 0, locals := 0 }) (va_Pc [.ref rd, .int 5, .int 0] (zR D (zKT cI cJ cZ cP cS) po [(rd, .inr (3, [.ref ri, .ref rl, .int rz, .int rc, .int rp, .int rf, .int rt, .int ru]))])) (vp_Si (fun r => r = 300)) 0 0 (fun _ => False) := by
  refine Met.ofW (cc := cX3_mostOf) (maxL := 3) (ret := (some .int)) (by decide) rfl ?_
  intro p e s m args below meth c s₁ B hml hv
  obtain ⟨rfl, hP, hK, hN, hZ⟩ := hv
  have hx := B.exec
  have hb := B.bytes
  have hr := B.returns
  have hts := atoms_spec (ws := wsX3_mostOf) B.pre
  have hown : s.vm.findClass RX3 = some m.cls := findClass_of_methodNamed B.named
  have hlocks := B.notSynchronized
  have hl := lv_entry ([.ref rd, .int 5, .int 0]) (n := 3) (Nat.le_of_ble_eq_true rfl)
  rw [lg_entry_eq]
  generalize (lg_sl ([.ref rd, .int 5, .int 0]) ++ List.replicate (3 - (lg_sl ([.ref rd, .int 5, .int 0])).length) Slot.unset).toArray = ls at hl ⊢
  replace hl : lv_has ls 3 [(0, .ref rd), (1, .int 5), (2, .int 0)] := hl
  refine lv_iload_n hx hb dX3_mostOf_0 rfl (lv_at hl 1 rfl) ?_
  refine lv_tableIn (tgt := 103) hx hb dX3_mostOf_1 (by decide) (by decide) rfl (by decide) ?_
  refine lv_sipush (v := 300) hx hb dX3_mostOf_103 (by decide) ?_
  exact W.iret (v := 300) hx hb hr (fun t ht hW => ⟨300, rfl, rfl, ht⟩) (fun q hq => by cases hq) dX3_mostOf_106
set_option maxHeartbeats 4000000 in
set_option maxRecDepth 100000 in
theorem c_R_leastOf_6_0 (l : Launch) (D : va_G) (cI cJ cZ cP cS : ClassId) (po : zPool)   : Met l yX3_leastOf wsX3_leastOf ({ frames := 0, cells := 0, slots := 0, locals := 0 }) (va_Pc [.int 6, .int 0] (zR D (zKT cI cJ cZ cP cS) po [])) (vp_Si (fun r => r = 0)) 0 0 (fun _ => False) := by
  refine Met.ofW (cc := cX3_leastOf) (maxL := 2) (ret := (some .int)) (by decide) rfl ?_
  intro p e s m args below meth c s₁ B hml hv
  obtain ⟨rfl, hP, hK, hN, hZ⟩ := hv
  have hx := B.exec
  have hb := B.bytes
  have hr := B.returns
  have hts := atoms_spec (ws := wsX3_leastOf) B.pre
  have hown : s.vm.findClass RX3 = some m.cls := findClass_of_methodNamed B.named
  have hlocks := B.notSynchronized
  have hl := lv_entry ([.int 6, .int 0]) (n := 2) (Nat.le_of_ble_eq_true rfl)
  rw [lg_entry_eq]
  generalize (lg_sl ([.int 6, .int 0]) ++ List.replicate (2 - (lg_sl ([.int 6, .int 0])).length) Slot.unset).toArray = ls at hl ⊢
  replace hl : lv_has ls 2 [(0, .int 6), (1, .int 0)] := hl
  refine lv_iload_n hx hb dX3_leastOf_0 rfl (lv_at hl 0 rfl) ?_
  refine lv_if_ne (tgt := 6) hx hb dX3_leastOf_1 (by decide) (fun c_1 => ?_) (fun c_1 => ?_)
  · refine lv_iload_n hx hb dX3_leastOf_6 rfl (lv_at hl 0 rfl) ?_
    refine lv_bipush (v := 7) hx hb dX3_leastOf_7 (by decide) ?_
    refine lv_icmp_eq (tgt := 22) hx hb dX3_leastOf_9 (by decide) (fun c_2 => ?_) (fun c_2 => ?_)
    · exact absurd c_2 (by decide)
    · refine lv_iload_n hx hb dX3_leastOf_12 rfl (lv_at hl 0 rfl) ?_
      refine lv_iconst (v := 3) hx hb dX3_leastOf_13 (by decide) ?_
      refine lv_icmp_ne (tgt := 26) hx hb dX3_leastOf_14 (by decide) (fun c_3 => ?_) (fun c_3 => ?_)
      · refine lv_iconst (v := 0) hx hb dX3_leastOf_26 (by decide) ?_
        exact W.iret (v := 0) hx hb hr (fun t ht hW => ⟨0, rfl, rfl, ht⟩) (fun q hq => by cases hq) dX3_leastOf_27
      · exact absurd c_3 (by decide)
  · exact absurd c_1 (by decide)
set_option maxHeartbeats 4000000 in
set_option maxRecDepth 100000 in
theorem c_R_mostOf_6_0 (l : Launch) (D : va_G) (cI cJ cZ cP cS : ClassId) (po : zPool) (rd ri rl : Nat) (rz rc rp rf rt ru : Int32) (hy0 : 0 ≤ rz.toInt) (hy1 : rz.toInt ≤ 160) (hy2 : 0 ≤ rc.toInt) (hy3 : rc.toInt ≤ 40) (hy4 : 0 ≤ rp.toInt) (hy5 : rp.toInt ≤ 160) (hy6 : rp.toInt ≤ rz.toInt) (hy7 : (-1) ≤ rf.toInt) (hy8 : rf.toInt ≤ 160) (hy9 : 0 ≤ rt.toInt) (hy10 : rt.toInt ≤ 40) (hy11 : 0 ≤ ru.toInt) (hy12 : ru.toInt ≤ 8) : Met l yX3_mostOf wsX3_mostOf ({ frames := 0, cells := 0, slots := 0, locals := 0 }) (va_Pc [.ref rd, .int 6, .int 0] (zR D (zKT cI cJ cZ cP cS) po [(rd, .inr (3, [.ref ri, .ref rl, .int rz, .int rc, .int rp, .int rf, .int rt, .int ru]))])) (vp_Si (fun r => r = 9)) 0 0 (fun _ => False) := by
  refine Met.ofW (cc := cX3_mostOf) (maxL := 3) (ret := (some .int)) (by decide) rfl ?_
  intro p e s m args below meth c s₁ B hml hv
  obtain ⟨rfl, hP, hK, hN, hZ⟩ := hv
  have hx := B.exec
  have hb := B.bytes
  have hr := B.returns
  have hts := atoms_spec (ws := wsX3_mostOf) B.pre
  have hown : s.vm.findClass RX3 = some m.cls := findClass_of_methodNamed B.named
  have hlocks := B.notSynchronized
  have hl := lv_entry ([.ref rd, .int 6, .int 0]) (n := 3) (Nat.le_of_ble_eq_true rfl)
  rw [lg_entry_eq]
  generalize (lg_sl ([.ref rd, .int 6, .int 0]) ++ List.replicate (3 - (lg_sl ([.ref rd, .int 6, .int 0])).length) Slot.unset).toArray = ls at hl ⊢
  replace hl : lv_has ls 3 [(0, .ref rd), (1, .int 6), (2, .int 0)] := hl
  refine lv_iload_n hx hb dX3_mostOf_0 rfl (lv_at hl 1 rfl) ?_
  refine lv_tableIn (tgt := 107) hx hb dX3_mostOf_1 (by decide) (by decide) rfl (by decide) ?_
  refine lv_bipush (v := 9) hx hb dX3_mostOf_107 (by decide) ?_
  exact W.iret (v := 9) hx hb hr (fun t ht hW => ⟨9, rfl, rfl, ht⟩) (fun q hq => by cases hq) dX3_mostOf_109
set_option maxHeartbeats 4000000 in
set_option maxRecDepth 100000 in
theorem c_R_leastOf_7_0 (l : Launch) (D : va_G) (cI cJ cZ cP cS : ClassId) (po : zPool)   : Met l yX3_leastOf wsX3_leastOf ({ frames := 0, cells := 0, slots := 0, locals := 0 }) (va_Pc [.int 7, .int 0] (zR D (zKT cI cJ cZ cP cS) po [])) (vp_Si (fun r => r = 1)) 0 0 (fun _ => False) := by
  refine Met.ofW (cc := cX3_leastOf) (maxL := 2) (ret := (some .int)) (by decide) rfl ?_
  intro p e s m args below meth c s₁ B hml hv
  obtain ⟨rfl, hP, hK, hN, hZ⟩ := hv
  have hx := B.exec
  have hb := B.bytes
  have hr := B.returns
  have hts := atoms_spec (ws := wsX3_leastOf) B.pre
  have hown : s.vm.findClass RX3 = some m.cls := findClass_of_methodNamed B.named
  have hlocks := B.notSynchronized
  have hl := lv_entry ([.int 7, .int 0]) (n := 2) (Nat.le_of_ble_eq_true rfl)
  rw [lg_entry_eq]
  generalize (lg_sl ([.int 7, .int 0]) ++ List.replicate (2 - (lg_sl ([.int 7, .int 0])).length) Slot.unset).toArray = ls at hl ⊢
  replace hl : lv_has ls 2 [(0, .int 7), (1, .int 0)] := hl
  refine lv_iload_n hx hb dX3_leastOf_0 rfl (lv_at hl 0 rfl) ?_
  refine lv_if_ne (tgt := 6) hx hb dX3_leastOf_1 (by decide) (fun c_1 => ?_) (fun c_1 => ?_)
  · refine lv_iload_n hx hb dX3_leastOf_6 rfl (lv_at hl 0 rfl) ?_
    refine lv_bipush (v := 7) hx hb dX3_leastOf_7 (by decide) ?_
    refine lv_icmp_eq (tgt := 22) hx hb dX3_leastOf_9 (by decide) (fun c_2 => ?_) (fun c_2 => ?_)
    · refine lv_iconst (v := 1) hx hb dX3_leastOf_22 (by decide) ?_
      refine lv_goto (tgt := 27) hx hb dX3_leastOf_23 (by decide) ?_
      exact W.iret (v := 1) hx hb hr (fun t ht hW => ⟨1, rfl, rfl, ht⟩) (fun q hq => by cases hq) dX3_leastOf_27
    · exact absurd c_2 (by decide)
  · exact absurd c_1 (by decide)
set_option maxHeartbeats 4000000 in
set_option maxRecDepth 100000 in
theorem c_R_mostOf_7_0 (l : Launch) (D : va_G) (cI cJ cZ cP cS : ClassId) (po : zPool) (rd ri rl : Nat) (rz rc rp rf rt ru : Int32) (hy0 : 0 ≤ rz.toInt) (hy1 : rz.toInt ≤ 160) (hy2 : 0 ≤ rc.toInt) (hy3 : rc.toInt ≤ 40) (hy4 : 0 ≤ rp.toInt) (hy5 : rp.toInt ≤ 160) (hy6 : rp.toInt ≤ rz.toInt) (hy7 : (-1) ≤ rf.toInt) (hy8 : rf.toInt ≤ 160) (hy9 : 0 ≤ rt.toInt) (hy10 : rt.toInt ≤ 40) (hy11 : 0 ≤ ru.toInt) (hy12 : ru.toInt ≤ 8) : Met l yX3_mostOf wsX3_mostOf ({ frames := 0, cells := 0, slots := 0, locals := 0 }) (va_Pc [.ref rd, .int 7, .int 0] (zR D (zKT cI cJ cZ cP cS) po [(rd, .inr (3, [.ref ri, .ref rl, .int rz, .int rc, .int rp, .int rf, .int rt, .int ru]))])) (vp_Si (fun r => r = 9)) 0 0 (fun _ => False) := by
  refine Met.ofW (cc := cX3_mostOf) (maxL := 3) (ret := (some .int)) (by decide) rfl ?_
  intro p e s m args below meth c s₁ B hml hv
  obtain ⟨rfl, hP, hK, hN, hZ⟩ := hv
  have hx := B.exec
  have hb := B.bytes
  have hr := B.returns
  have hts := atoms_spec (ws := wsX3_mostOf) B.pre
  have hown : s.vm.findClass RX3 = some m.cls := findClass_of_methodNamed B.named
  have hlocks := B.notSynchronized
  have hl := lv_entry ([.ref rd, .int 7, .int 0]) (n := 3) (Nat.le_of_ble_eq_true rfl)
  rw [lg_entry_eq]
  generalize (lg_sl ([.ref rd, .int 7, .int 0]) ++ List.replicate (3 - (lg_sl ([.ref rd, .int 7, .int 0])).length) Slot.unset).toArray = ls at hl ⊢
  replace hl : lv_has ls 3 [(0, .ref rd), (1, .int 7), (2, .int 0)] := hl
  refine lv_iload_n hx hb dX3_mostOf_0 rfl (lv_at hl 1 rfl) ?_
  refine lv_tableIn (tgt := 110) hx hb dX3_mostOf_1 (by decide) (by decide) rfl (by decide) ?_
  refine lv_bipush (v := 9) hx hb dX3_mostOf_110 (by decide) ?_
  exact W.iret (v := 9) hx hb hr (fun t ht hW => ⟨9, rfl, rfl, ht⟩) (fun q hq => by cases hq) dX3_mostOf_112
set_option maxHeartbeats 4000000 in
set_option maxRecDepth 100000 in
theorem c_R_leastOf_8_0 (l : Launch) (D : va_G) (cI cJ cZ cP cS : ClassId) (po : zPool)   : Met l yX3_leastOf wsX3_leastOf ({ frames := 0, cells := 0, slots := 0, locals := 0 }) (va_Pc [.int 8, .int 0] (zR D (zKT cI cJ cZ cP cS) po [])) (vp_Si (fun r => r = 0)) 0 0 (fun _ => False) := by
  refine Met.ofW (cc := cX3_leastOf) (maxL := 2) (ret := (some .int)) (by decide) rfl ?_
  intro p e s m args below meth c s₁ B hml hv
  obtain ⟨rfl, hP, hK, hN, hZ⟩ := hv
  have hx := B.exec
  have hb := B.bytes
  have hr := B.returns
  have hts := atoms_spec (ws := wsX3_leastOf) B.pre
  have hown : s.vm.findClass RX3 = some m.cls := findClass_of_methodNamed B.named
  have hlocks := B.notSynchronized
  have hl := lv_entry ([.int 8, .int 0]) (n := 2) (Nat.le_of_ble_eq_true rfl)
  rw [lg_entry_eq]
  generalize (lg_sl ([.int 8, .int 0]) ++ List.replicate (2 - (lg_sl ([.int 8, .int 0])).length) Slot.unset).toArray = ls at hl ⊢
  replace hl : lv_has ls 2 [(0, .int 8), (1, .int 0)] := hl
  refine lv_iload_n hx hb dX3_leastOf_0 rfl (lv_at hl 0 rfl) ?_
  refine lv_if_ne (tgt := 6) hx hb dX3_leastOf_1 (by decide) (fun c_1 => ?_) (fun c_1 => ?_)
  · refine lv_iload_n hx hb dX3_leastOf_6 rfl (lv_at hl 0 rfl) ?_
    refine lv_bipush (v := 7) hx hb dX3_leastOf_7 (by decide) ?_
    refine lv_icmp_eq (tgt := 22) hx hb dX3_leastOf_9 (by decide) (fun c_2 => ?_) (fun c_2 => ?_)
    · exact absurd c_2 (by decide)
    · refine lv_iload_n hx hb dX3_leastOf_12 rfl (lv_at hl 0 rfl) ?_
      refine lv_iconst (v := 3) hx hb dX3_leastOf_13 (by decide) ?_
      refine lv_icmp_ne (tgt := 26) hx hb dX3_leastOf_14 (by decide) (fun c_3 => ?_) (fun c_3 => ?_)
      · refine lv_iconst (v := 0) hx hb dX3_leastOf_26 (by decide) ?_
        exact W.iret (v := 0) hx hb hr (fun t ht hW => ⟨0, rfl, rfl, ht⟩) (fun q hq => by cases hq) dX3_leastOf_27
      · exact absurd c_3 (by decide)
  · exact absurd c_1 (by decide)
set_option maxHeartbeats 4000000 in
set_option maxRecDepth 100000 in
theorem c_R_mostOf_8_0 (l : Launch) (D : va_G) (cI cJ cZ cP cS : ClassId) (po : zPool) (rd ri rl : Nat) (rz rc rp rf rt ru : Int32) (hy0 : 0 ≤ rz.toInt) (hy1 : rz.toInt ≤ 160) (hy2 : 0 ≤ rc.toInt) (hy3 : rc.toInt ≤ 40) (hy4 : 0 ≤ rp.toInt) (hy5 : rp.toInt ≤ 160) (hy6 : rp.toInt ≤ rz.toInt) (hy7 : (-1) ≤ rf.toInt) (hy8 : rf.toInt ≤ 160) (hy9 : 0 ≤ rt.toInt) (hy10 : rt.toInt ≤ 40) (hy11 : 0 ≤ ru.toInt) (hy12 : ru.toInt ≤ 8) : Met l yX3_mostOf wsX3_mostOf ({ frames := 0, cells := 0, slots := 0, locals := 0 }) (va_Pc [.ref rd, .int 8, .int 0] (zR D (zKT cI cJ cZ cP cS) po [(rd, .inr (3, [.ref ri, .ref rl, .int rz, .int rc, .int rp, .int rf, .int rt, .int ru]))])) (vp_Si (fun r => r = 2)) 0 0 (fun _ => False) := by
  refine Met.ofW (cc := cX3_mostOf) (maxL := 3) (ret := (some .int)) (by decide) rfl ?_
  intro p e s m args below meth c s₁ B hml hv
  obtain ⟨rfl, hP, hK, hN, hZ⟩ := hv
  have hx := B.exec
  have hb := B.bytes
  have hr := B.returns
  have hts := atoms_spec (ws := wsX3_mostOf) B.pre
  have hown : s.vm.findClass RX3 = some m.cls := findClass_of_methodNamed B.named
  have hlocks := B.notSynchronized
  have hl := lv_entry ([.ref rd, .int 8, .int 0]) (n := 3) (Nat.le_of_ble_eq_true rfl)
  rw [lg_entry_eq]
  generalize (lg_sl ([.ref rd, .int 8, .int 0]) ++ List.replicate (3 - (lg_sl ([.ref rd, .int 8, .int 0])).length) Slot.unset).toArray = ls at hl ⊢
  replace hl : lv_has ls 3 [(0, .ref rd), (1, .int 8), (2, .int 0)] := hl
  refine lv_iload_n hx hb dX3_mostOf_0 rfl (lv_at hl 1 rfl) ?_
  refine lv_tableIn (tgt := 113) hx hb dX3_mostOf_1 (by decide) (by decide) rfl (by decide) ?_
  refine lv_iload_n hx hb dX3_mostOf_113 rfl (lv_at hl 2 rfl) ?_
  refine lv_if_ne (tgt := 121) hx hb dX3_mostOf_114 (by decide) (fun c_1 => ?_) (fun c_1 => ?_)
  · exact absurd c_1 (by decide)
  · refine lv_iconst (v := 2) hx hb dX3_mostOf_117 (by decide) ?_
    refine lv_goto (tgt := 123) hx hb dX3_mostOf_118 (by decide) ?_
    exact W.iret (v := 2) hx hb hr (fun t ht hW => ⟨2, rfl, rfl, ht⟩) (fun q hq => by cases hq) dX3_mostOf_123
set_option maxHeartbeats 4000000 in
set_option maxRecDepth 100000 in
theorem c_R_leastOf_8_1 (l : Launch) (D : va_G) (cI cJ cZ cP cS : ClassId) (po : zPool)   : Met l yX3_leastOf wsX3_leastOf ({ frames := 0, cells := 0, slots := 0, locals := 0 }) (va_Pc [.int 8, .int 1] (zR D (zKT cI cJ cZ cP cS) po [])) (vp_Si (fun r => r = 0)) 0 0 (fun _ => False) := by
  refine Met.ofW (cc := cX3_leastOf) (maxL := 2) (ret := (some .int)) (by decide) rfl ?_
  intro p e s m args below meth c s₁ B hml hv
  obtain ⟨rfl, hP, hK, hN, hZ⟩ := hv
  have hx := B.exec
  have hb := B.bytes
  have hr := B.returns
  have hts := atoms_spec (ws := wsX3_leastOf) B.pre
  have hown : s.vm.findClass RX3 = some m.cls := findClass_of_methodNamed B.named
  have hlocks := B.notSynchronized
  have hl := lv_entry ([.int 8, .int 1]) (n := 2) (Nat.le_of_ble_eq_true rfl)
  rw [lg_entry_eq]
  generalize (lg_sl ([.int 8, .int 1]) ++ List.replicate (2 - (lg_sl ([.int 8, .int 1])).length) Slot.unset).toArray = ls at hl ⊢
  replace hl : lv_has ls 2 [(0, .int 8), (1, .int 1)] := hl
  refine lv_iload_n hx hb dX3_leastOf_0 rfl (lv_at hl 0 rfl) ?_
  refine lv_if_ne (tgt := 6) hx hb dX3_leastOf_1 (by decide) (fun c_1 => ?_) (fun c_1 => ?_)
  · refine lv_iload_n hx hb dX3_leastOf_6 rfl (lv_at hl 0 rfl) ?_
    refine lv_bipush (v := 7) hx hb dX3_leastOf_7 (by decide) ?_
    refine lv_icmp_eq (tgt := 22) hx hb dX3_leastOf_9 (by decide) (fun c_2 => ?_) (fun c_2 => ?_)
    · exact absurd c_2 (by decide)
    · refine lv_iload_n hx hb dX3_leastOf_12 rfl (lv_at hl 0 rfl) ?_
      refine lv_iconst (v := 3) hx hb dX3_leastOf_13 (by decide) ?_
      refine lv_icmp_ne (tgt := 26) hx hb dX3_leastOf_14 (by decide) (fun c_3 => ?_) (fun c_3 => ?_)
      · refine lv_iconst (v := 0) hx hb dX3_leastOf_26 (by decide) ?_
        exact W.iret (v := 0) hx hb hr (fun t ht hW => ⟨0, rfl, rfl, ht⟩) (fun q hq => by cases hq) dX3_leastOf_27
      · exact absurd c_3 (by decide)
  · exact absurd c_1 (by decide)
set_option maxHeartbeats 4000000 in
set_option maxRecDepth 100000 in
theorem c_R_mostOf_8_1 (l : Launch) (D : va_G) (cI cJ cZ cP cS : ClassId) (po : zPool) (rd ri rl : Nat) (rz rc rp rf rt ru : Int32) (hy0 : 0 ≤ rz.toInt) (hy1 : rz.toInt ≤ 160) (hy2 : 0 ≤ rc.toInt) (hy3 : rc.toInt ≤ 40) (hy4 : 0 ≤ rp.toInt) (hy5 : rp.toInt ≤ 160) (hy6 : rp.toInt ≤ rz.toInt) (hy7 : (-1) ≤ rf.toInt) (hy8 : rf.toInt ≤ 160) (hy9 : 0 ≤ rt.toInt) (hy10 : rt.toInt ≤ 40) (hy11 : 0 ≤ ru.toInt) (hy12 : ru.toInt ≤ 8) : Met l yX3_mostOf wsX3_mostOf ({ frames := 0, cells := 0, slots := 0, locals := 0 }) (va_Pc [.ref rd, .int 8, .int 1] (zR D (zKT cI cJ cZ cP cS) po [(rd, .inr (3, [.ref ri, .ref rl, .int rz, .int rc, .int rp, .int rf, .int rt, .int ru]))])) (vp_Si (fun r => r = 99)) 0 0 (fun _ => False) := by
  refine Met.ofW (cc := cX3_mostOf) (maxL := 3) (ret := (some .int)) (by decide) rfl ?_
  intro p e s m args below meth c s₁ B hml hv
  obtain ⟨rfl, hP, hK, hN, hZ⟩ := hv
  have hx := B.exec
  have hb := B.bytes
  have hr := B.returns
  have hts := atoms_spec (ws := wsX3_mostOf) B.pre
  have hown : s.vm.findClass RX3 = some m.cls := findClass_of_methodNamed B.named
  have hlocks := B.notSynchronized
  have hl := lv_entry ([.ref rd, .int 8, .int 1]) (n := 3) (Nat.le_of_ble_eq_true rfl)
  rw [lg_entry_eq]
  generalize (lg_sl ([.ref rd, .int 8, .int 1]) ++ List.replicate (3 - (lg_sl ([.ref rd, .int 8, .int 1])).length) Slot.unset).toArray = ls at hl ⊢
  replace hl : lv_has ls 3 [(0, .ref rd), (1, .int 8), (2, .int 1)] := hl
  refine lv_iload_n hx hb dX3_mostOf_0 rfl (lv_at hl 1 rfl) ?_
  refine lv_tableIn (tgt := 113) hx hb dX3_mostOf_1 (by decide) (by decide) rfl (by decide) ?_
  refine lv_iload_n hx hb dX3_mostOf_113 rfl (lv_at hl 2 rfl) ?_
  refine lv_if_ne (tgt := 121) hx hb dX3_mostOf_114 (by decide) (fun c_1 => ?_) (fun c_1 => ?_)
  · refine lv_bipush (v := 99) hx hb dX3_mostOf_121 (by decide) ?_
    exact W.iret (v := 99) hx hb hr (fun t ht hW => ⟨99, rfl, rfl, ht⟩) (fun q hq => by cases hq) dX3_mostOf_123
  · exact absurd c_1 (by decide)
set_option maxHeartbeats 4000000 in
set_option maxRecDepth 100000 in
theorem c_R_leastOf_9_0 (l : Launch) (D : va_G) (cI cJ cZ cP cS : ClassId) (po : zPool)   : Met l yX3_leastOf wsX3_leastOf ({ frames := 0, cells := 0, slots := 0, locals := 0 }) (va_Pc [.int 9, .int 0] (zR D (zKT cI cJ cZ cP cS) po [])) (vp_Si (fun r => r = 0)) 0 0 (fun _ => False) := by
  refine Met.ofW (cc := cX3_leastOf) (maxL := 2) (ret := (some .int)) (by decide) rfl ?_
  intro p e s m args below meth c s₁ B hml hv
  obtain ⟨rfl, hP, hK, hN, hZ⟩ := hv
  have hx := B.exec
  have hb := B.bytes
  have hr := B.returns
  have hts := atoms_spec (ws := wsX3_leastOf) B.pre
  have hown : s.vm.findClass RX3 = some m.cls := findClass_of_methodNamed B.named
  have hlocks := B.notSynchronized
  have hl := lv_entry ([.int 9, .int 0]) (n := 2) (Nat.le_of_ble_eq_true rfl)
  rw [lg_entry_eq]
  generalize (lg_sl ([.int 9, .int 0]) ++ List.replicate (2 - (lg_sl ([.int 9, .int 0])).length) Slot.unset).toArray = ls at hl ⊢
  replace hl : lv_has ls 2 [(0, .int 9), (1, .int 0)] := hl
  refine lv_iload_n hx hb dX3_leastOf_0 rfl (lv_at hl 0 rfl) ?_
  refine lv_if_ne (tgt := 6) hx hb dX3_leastOf_1 (by decide) (fun c_1 => ?_) (fun c_1 => ?_)
  · refine lv_iload_n hx hb dX3_leastOf_6 rfl (lv_at hl 0 rfl) ?_
    refine lv_bipush (v := 7) hx hb dX3_leastOf_7 (by decide) ?_
    refine lv_icmp_eq (tgt := 22) hx hb dX3_leastOf_9 (by decide) (fun c_2 => ?_) (fun c_2 => ?_)
    · exact absurd c_2 (by decide)
    · refine lv_iload_n hx hb dX3_leastOf_12 rfl (lv_at hl 0 rfl) ?_
      refine lv_iconst (v := 3) hx hb dX3_leastOf_13 (by decide) ?_
      refine lv_icmp_ne (tgt := 26) hx hb dX3_leastOf_14 (by decide) (fun c_3 => ?_) (fun c_3 => ?_)
      · refine lv_iconst (v := 0) hx hb dX3_leastOf_26 (by decide) ?_
        exact W.iret (v := 0) hx hb hr (fun t ht hW => ⟨0, rfl, rfl, ht⟩) (fun q hq => by cases hq) dX3_leastOf_27
      · exact absurd c_3 (by decide)
  · exact absurd c_1 (by decide)
set_option maxHeartbeats 4000000 in
set_option maxRecDepth 100000 in
theorem c_R_mostOf_9_0 (l : Launch) (D : va_G) (cI cJ cZ cP cS : ClassId) (po : zPool) (rd ri rl : Nat) (rz rc rp rf rt ru : Int32) (hy0 : 0 ≤ rz.toInt) (hy1 : rz.toInt ≤ 160) (hy2 : 0 ≤ rc.toInt) (hy3 : rc.toInt ≤ 40) (hy4 : 0 ≤ rp.toInt) (hy5 : rp.toInt ≤ 160) (hy6 : rp.toInt ≤ rz.toInt) (hy7 : (-1) ≤ rf.toInt) (hy8 : rf.toInt ≤ 160) (hy9 : 0 ≤ rt.toInt) (hy10 : rt.toInt ≤ 40) (hy11 : 0 ≤ ru.toInt) (hy12 : ru.toInt ≤ 8) : Met l yX3_mostOf wsX3_mostOf ({ frames := 0, cells := 0, slots := 0, locals := 0 }) (va_Pc [.ref rd, .int 9, .int 0] (zR D (zKT cI cJ cZ cP cS) po [(rd, .inr (3, [.ref ri, .ref rl, .int rz, .int rc, .int rp, .int rf, .int rt, .int ru]))])) (vp_Si (fun r => 0 ≤ r.toInt ∧ r.toInt ≤ 40 ∧ (r.toInt = rt.toInt))) 0 0 (fun _ => False) := by
  refine Met.ofW (cc := cX3_mostOf) (maxL := 3) (ret := (some .int)) (by decide) rfl ?_
  intro p e s m args below meth c s₁ B hml hv
  obtain ⟨rfl, hP, hK, hN, hZ⟩ := hv
  have hx := B.exec
  have hb := B.bytes
  have hr := B.returns
  have hts := atoms_spec (ws := wsX3_mostOf) B.pre
  have hown : s.vm.findClass RX3 = some m.cls := findClass_of_methodNamed B.named
  have hlocks := B.notSynchronized
  have hl := lv_entry ([.ref rd, .int 9, .int 0]) (n := 3) (Nat.le_of_ble_eq_true rfl)
  rw [lg_entry_eq]
  generalize (lg_sl ([.ref rd, .int 9, .int 0]) ++ List.replicate (3 - (lg_sl ([.ref rd, .int 9, .int 0])).length) Slot.unset).toArray = ls at hl ⊢
  replace hl : lv_has ls 3 [(0, .ref rd), (1, .int 9), (2, .int 0)] := hl
  refine lv_iload_n hx hb dX3_mostOf_0 rfl (lv_at hl 1 rfl) ?_
  refine lv_tableOut (tgt := 124) hx hb dX3_mostOf_1 (by decide) (by decide) ?_
  refine lv_aload_n hx hb dX3_mostOf_124 rfl (lv_at hl 0 rfl) ?_
  refine va_get (D := D) (ci := 3) (v := .int rt) (C := RX3) (T := TX3) (N := 8) hx hb hts hi_X3_mostOf_3 hown hK hP 0 rfl rfl 6 (by decide) (hts (.fieldLink RX3 31 "TheLiningsInIt$Reader" "teeth" "I") (List.mem_of_getElem? (i := 1) rfl)) (fun _ h9 => h9) rfl dX3_mostOf_125 ?_
  exact W.iret (v := rt) hx hb hr (fun t ht hW => ⟨rt, rfl, ⟨by omega, by omega, (show (rt : Int32).toInt = rt.toInt from by omega)⟩, ht⟩) (fun q hq => by cases hq) dX3_mostOf_128
end
section
theorem hi_X3_readItem_3 : ∀ w ∈ u_ws RX3 TX3 8, w ∈ wsX3_readItem := fun w h => (gl_X3_readItem_X30 w h).1
end
section
theorem hi_X3_takeLetters_4 : ∀ w ∈ u_ws RX4 TX4 3, w ∈ wsX3_takeLetters := fun w h => (gl_X3_takeLetters_X40 w h).1
theorem gl_X3_takeLetters_X30 : GoodIn wsX3_takeLetters wsX30 := (dg_t (dg_t (dg_t (dg_t (dg_t (dg_t (dg_t (dg_t (dg_t (dg_t (dg_t (dg_t (dg_t (dg_t (dg_t (dg_t (dg_t (dg_t (dg_t (dg_r gw_wsX30))))))))))))))))))))
theorem hi_X3_takeLetters_3 : ∀ w ∈ u_ws RX3 TX3 8, w ∈ wsX3_takeLetters := fun w h => (gl_X3_takeLetters_X30 w h).1
theorem hi_X3_read_3 : ∀ w ∈ u_ws RX3 TX3 8, w ∈ wsX3_read := fun w h => (gl_X3_read_X30 w h).1
end
section
theorem gl_X2_init_X20 : GoodIn wsX2_init wsX20 := (dg_t (dg_t (dg_t (dg_t (dg_t (dg_t (dg_t gw_wsX20)))))))
theorem hi_X2_init_2 : ∀ w ∈ u_ws RX2 TX2 3, w ∈ wsX2_init := fun w h => (gl_X2_init_X20 w h).1
set_option maxHeartbeats 4000000 in
set_option maxRecDepth 100000 in
theorem c_Pull_init (l : Launch) (D : va_G) (cI cJ cZ cP cS : ClassId) (po : zPool) (u0 : Nat) (ki a_ ta : Int32)  (hpz : Nat) : Met l yX2_init wsX2_init ({ frames := 1, cells := 0, slots := 0, locals := 12 }) (va_Pc [.ref u0, .int ki, .int a_, .int ta] (zW D (zKT cI cJ cZ cP cS) po [(u0, .inr (2, [.int 0, .int 0, .int 0]))] hpz)) (va_Qv (fun (_ : Unit) => True) (zB D [(u0, .inr (2, [.int 0, .int 0, .int 0]))] hpz (fun (_ : Unit) => [(u0, .inr (2, [.int ki, .int a_, .int ta]))])) (va_A [(u0, .inr (2, [.int 0, .int 0, .int 0]))] hpz)) 0 0 (va_A [(u0, .inr (2, [.int 0, .int 0, .int 0]))] hpz) := by
  refine Met.ofW (cc := cX2_init) (maxL := 4) (ret := none) (by decide) rfl ?_
  intro p e s m args below meth c s₁ B hml hv
  obtain ⟨rfl, hsz, hP, hK, hD0, hN, hZ⟩ := hv
  have hx := B.exec
  have hb := B.bytes
  have hr := B.returns
  have hts := atoms_spec (ws := wsX2_init) B.pre
  have hown : s.vm.findClass RX2 = some m.cls := findClass_of_methodNamed B.named
  have hlocks := B.notSynchronized
  have hin : meth.name = "<init>" := (name_of_methodNamed B.named B.method).1
  subst hsz
  have hD := hD0.self (sz := s.heap.size)
  have hA := zA_of hD
  have hl := lv_entry ([.ref u0, .int ki, .int a_, .int ta]) (n := 4) (Nat.le_of_ble_eq_true rfl)
  rw [lg_entry_eq]
  generalize (lg_sl ([.ref u0, .int ki, .int a_, .int ta]) ++ List.replicate (4 - (lg_sl ([.ref u0, .int ki, .int a_, .int ta])).length) Slot.unset).toArray = ls at hl ⊢
  replace hl : lv_has ls 4 [(0, .ref u0), (1, .int ki), (2, .int a_), (3, .int ta)] := hl
  refine zw_begin hP hD (fun H locs hP1 hS => ?_)
  clear hP
  have hP := hP1
  clear hP1
  refine lv_aload_n hx hb dX2_init_0 rfl (lv_at hl 0 rfl) ?_
  refine W.objInit hx hb hown (hts (.methodLink RX2 3 objectInit) (List.mem_of_getElem? (i := 1) rfl)) (hts _ (List.mem_of_getElem? (i := 2) rfl)) (hts _ (List.mem_of_getElem? (i := 3) rfl)) rfl (by rw [hml]; exact hl.1) rfl dX2_init_1 (Nat.le_of_ble_eq_true rfl) (Nat.le_of_ble_eq_true rfl) ?_
  refine W.eq (g2 := F0 m 4 ls []) rfl ?_
  refine lv_aload_n hx hb dX2_init_4 rfl (lv_at hl 0 rfl) ?_
  refine lv_iload_n hx hb dX2_init_5 rfl (lv_at hl 1 rfl) ?_
  refine va_putF (D := D) (ci := 2) (v := .int ki) (ty := .int) (C := RX2) (T := TX2) (N := 3) hx hb hts hi_X2_init_2 tyX2 tyX2_ok nmX2 hown hK hP hD hS 0 rfl rfl 0 (by decide) (hts (.fieldLink RX2 9 "TheLiningsInIt$Pull" "kind" "I") (List.mem_of_getElem? (i := 4) rfl)) (fun _ h9 => h9) rfl hin rfl (tyX2_ok 0 (Nat.le_of_ble_eq_true rfl)) rfl rfl (Nat.le_of_ble_eq_true rfl) dX2_init_6 (fun H locs hP hD hS => ?_)
  have h9R := zRe (ws' := [(u0, .inr (2, [.int ki, .int 0, .int 0]))]) hP hD rfl
  clear hP hD
  obtain ⟨hP, hD⟩ := h9R
  refine lv_aload_n hx hb dX2_init_9 rfl (lv_at hl 0 rfl) ?_
  refine lv_iload_n hx hb dX2_init_10 rfl (lv_at hl 2 rfl) ?_
  refine va_putF (D := D) (ci := 2) (v := .int a_) (ty := .int) (C := RX2) (T := TX2) (N := 3) hx hb hts hi_X2_init_2 tyX2 tyX2_ok nmX2 hown hK hP hD hS 0 rfl rfl 1 (by decide) (hts (.fieldLink RX2 15 "TheLiningsInIt$Pull" "a" "I") (List.mem_of_getElem? (i := 5) rfl)) (fun _ h9 => h9) rfl hin rfl (tyX2_ok 1 (Nat.le_of_ble_eq_true rfl)) rfl rfl (Nat.le_of_ble_eq_true rfl) dX2_init_11 (fun H locs hP hD hS => ?_)
  have h9R := zRe (ws' := [(u0, .inr (2, [.int ki, .int a_, .int 0]))]) hP hD rfl
  clear hP hD
  obtain ⟨hP, hD⟩ := h9R
  refine lv_aload_n hx hb dX2_init_14 rfl (lv_at hl 0 rfl) ?_
  refine lv_iload_n hx hb dX2_init_15 rfl (lv_at hl 3 rfl) ?_
  refine va_putF (D := D) (ci := 2) (v := .int ta) (ty := .int) (C := RX2) (T := TX2) (N := 3) hx hb hts hi_X2_init_2 tyX2 tyX2_ok nmX2 hown hK hP hD hS 0 rfl rfl 2 (by decide) (hts (.fieldLink RX2 18 "TheLiningsInIt$Pull" "takes" "I") (List.mem_of_getElem? (i := 6) rfl)) (fun _ h9 => h9) rfl hin rfl (tyX2_ok 2 (Nat.le_of_ble_eq_true rfl)) rfl rfl (Nat.le_of_ble_eq_true rfl) dX2_init_16 (fun H locs hP hD hS => ?_)
  have h9R := zRe (ws' := [(u0, .inr (2, [.int ki, .int a_, .int ta]))]) hP hD rfl
  clear hP hD
  obtain ⟨hP, hD⟩ := h9R
  exact W.vret hx hb hr (fun t ht hW => ⟨⟨(), rfl, trivial, zRet ht hP hD [0] (by decide) rfl⟩, hS.F ht⟩) hS.2.2 dX2_init_19
theorem gl_X0_addPull_X00 : GoodIn wsX0_addPull wsX00 := (dg_t (dg_t (dg_t (dg_t (dg_t (dg_t (dg_t (dg_t (dg_t (dg_t (dg_t (dg_t (dg_t (dg_t (dg_t (dg_l gw_wsX00))))))))))))))))
theorem hi_X0_addPull_0 : ∀ w ∈ u_ws RX0 TX0 9, w ∈ wsX0_addPull := fun w h => (gl_X0_addPull_X00 w h).1
theorem hi_X0_addPull_2 : ∀ w ∈ u_ws RX2 TX2 3, w ∈ wsX0_addPull := fun w h => (gl_X0_addPull_X20 w h).1
theorem gl_X3_tellItem_X30 : GoodIn wsX3_tellItem wsX30 := (dg_t (dg_l (dg_l (dg_l (dg_r gw_wsX30)))))
theorem hi_X3_tellItem_3 : ∀ w ∈ u_ws RX3 TX3 8, w ∈ wsX3_tellItem := fun w h => (gl_X3_tellItem_X30 w h).1
theorem hi_X3_tellItem_0 : ∀ w ∈ u_ws RX0 TX0 9, w ∈ wsX3_tellItem := fun w h => (gl_X3_tellItem_X00 w h).1
theorem hi_X3_tellItem_6 : ∀ w ∈ u_ws RX6 TX6 5, w ∈ wsX3_tellItem := fun w h => (gl_X3_tellItem_X60 w h).1
end
section
theorem hi_X3_tell_3 : ∀ w ∈ u_ws RX3 TX3 8, w ∈ wsX3_tell := fun w h => (gl_X3_tell_X30 w h).1
end
section
theorem gl_X0_become_X00 : GoodIn wsX0_become wsX00 := (dg_t (dg_t (dg_t (dg_t (dg_t (dg_t (dg_t (dg_t (dg_t (dg_t (dg_t (dg_t (dg_t (dg_t (dg_t (dg_t (dg_t (dg_t (dg_t (dg_t (dg_t (dg_t (dg_t (dg_t (dg_l gw_wsX00)))))))))))))))))))))))))
theorem hi_X0_become_0 : ∀ w ∈ u_ws RX0 TX0 9, w ∈ wsX0_become := fun w h => (gl_X0_become_X00 w h).1
end
section
/-! a nest mate's private method that writes -/
section ZC
variable {p : Program} {l : Launch} {e : Env} {R : Room} {s : State} {m : MethodId} {args : Array Value} {below : List Frame} {meth : Method} {c : Code} {H : Heap} {locs : List Loc} {cells slots : Nat} {Q : State → Prop} {pc : Nat} {ls : Array Slot}
variable {y : MethodName} {bytes cc : ByteArray} {maxL nL mc ms n index : Nat} {ret : Option FieldType} {wsY : List Cond} {rm : Room} {Ts : List Cond} {own C host : String} {b : Addr} {As rest st0 : List Value} {wc ws wr : va_W} {D : va_G} {po : zPool} {tys : List (ClassId × FieldType)} {A : Nat → Prop} {H0 : Heap}
theorem zw_VN {S' : Type} {post : Int32 → S' → Prop} {wq : S' → va_W} (S : CallFix p m c cc nL s args Ts own) (hM : Met l y wsY rm (va_Pc (.ref b :: As) (zW D tys po wc H.size)) (va_Qi post (zB D wc H.size wq) (va_A wc H.size)) mc ms (va_A wc H.size)) (cw : va_CN R s args own index y host bytes maxL ret wsY rm mc ms n ∧ (Cond.instanceMethod y).before args s = true ∧ (Cond.selects C y y).before args s = true) (hK : va_K D vwCl tys s) (hN : zN s) (hZ : zE D po A s H) (hP : va_P D vwCl ws H) (hD : va_D A ws) (hS : va_S A H0 H locs) (hA : ∀ q, H0.size ≤ q → A q)
    (isC isR : List Nat) (hC : isC.map (fun i => ws[i]?) = wc.map some) (hR : isR.map (fun i => ws[i]?) = wr.map some) (hnC : va_nd isC = true) (hnR : va_nd isR = true) (hdis : ∀ i ∈ isR, i ∉ isC)
    (rv : ∃ cell : Cell, H[b]? = some cell ∧ cell.vm.isStatics = false ∧ s.vm.findClass C = some cell.cls) (hn : As.length = n) (hz : ls.size = nL) (hst : st0 = As.reverse ++ .ref b :: rest) (hw : (rest.map fun v => v.category).sum ≤ 8) (hdg : decode cc pc = .ok (.invokevirtual index, 3)) (hf : cells + mc ≤ R.cells ∧ slots + ms ≤ R.slots)
    (kk : ∀ (r : Int32) (u : S') (H1 : Heap) (locs1 : List Loc), post r u → va_P D vwCl (wr ++ wq u) H1 → va_D A (wr ++ wq u) → va_S A H0 H1 locs1 → W p l e R s m args below meth c H1 locs1 (cells + mc) (slots + ms) Q (F0 m (pc + 3) ls (.int r :: rest))) : W p l e R s m args below meth c H locs cells slots Q (F0 m pc ls st0) := by
  have hF := va_free (wc := wc) hD hS hA isC hC
  have hPc := zP_of hP hC
  have hDc : va_D (fun _ => True) wc := (hD.sub isC hnC hC).weaken (fun _ _ _ _ => trivial)
  refine va_calli (va_runVN S hM cw ⟨zW_fb, rv, fun U hU hW => ⟨rfl, by rw [hU], by rw [hU]; exact hPc, va_K.moved hW.alike hK, hDc, hN.warm hW, by rw [hU]; exact (hZ.warm hW).narrow hF⟩⟩ rfl hn hz hst (lv_room hw) hdg hf) hS (fun q _ h => hF q h) hF (fun r u t H1 locs1 ht hvm hw hB hz1 hk1 hS1 => ?_)
  obtain ⟨hP1, hD1⟩ := hB
  rw [ht] at hP1
  obtain ⟨hP2, hD2⟩ := va_join hP hD isC isR hC hR hnR hdis hk1 hF hP1 hD1
  exact kk r u H1 locs1 hw hP2 hD2 hS1
end ZC
end
