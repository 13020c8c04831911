theorem hi_X2_init_2 : ∀ w ∈ u_ws RX2 TX2 3, w ∈ wsX2_init := fun w h => (goodIn_r (u_ws RX2 TX2 3) [7, 8, 9] rfl (by decide +kernel) w h).1
set_option maxHeartbeats 4000000 in
set_option maxRecDepth 100000 in
theorem c_Pull_init (l : Launch) (D : va_G) (cI cJ cZ cP cS : ClassId) (po : zPool) (u0 : Nat) (ki a_ ta : Int32)  (hpz : Nat) : Met l yX2_init wsX2_init ({ frames := 1, cells := 0, slots := 0, locals := 12 }) (va_Pc [.ref u0, .int ki, .int a_, .int ta] (zW D (zKT cI cJ cZ cP cS) po [(u0, .inr (2, [.int 0, .int 0, .int 0]))] hpz)) (va_Qv (fun (_ : Unit) => True) (zB D [(u0, .inr (2, [.int 0, .int 0, .int 0]))] hpz (fun (_ : Unit) => [(u0, .inr (2, [.int ki, .int a_, .int ta]))])) (va_A [(u0, .inr (2, [.int 0, .int 0, .int 0]))] hpz)) 0 0 (va_A [(u0, .inr (2, [.int 0, .int 0, .int 0]))] hpz) := by
  refine Met.ofW (cc := cX2_init) (maxL := 4) (ret := none) (by decide) rfl ?_
  intro p e s m args below meth c s₁ B hml hv
  obtain ⟨rfl, hsz, hP, hK, hD0, hN, hZ⟩ := hv
  have hx := B.exec
  have hb := B.bytes
  have hr := B.returns
  have hts := atoms_spec (ws := wsX2_init) B.pre
  have hown : s.vm.findClass RX2 = some m.cls := findClass_of_methodNamed B.named
  have hlocks := B.notSynchronized
  have hin : meth.name = "<init>" := (name_of_methodNamed B.named B.method).1
  subst hsz
  have hD := hD0.self (sz := s.heap.size)
  have hA := zA_of hD
  have hl := lv_entry ([.ref u0, .int ki, .int a_, .int ta]) (n := 4) (Nat.le_of_ble_eq_true rfl)
  rw [lg_entry_eq]
  generalize (lg_sl ([.ref u0, .int ki, .int a_, .int ta]) ++ List.replicate (4 - (lg_sl ([.ref u0, .int ki, .int a_, .int ta])).length) Slot.unset).toArray = ls at hl ⊢
  replace hl : lv_has ls 4 [(0, .ref u0), (1, .int ki), (2, .int a_), (3, .int ta)] := hl
  refine zw_begin hP hD (fun H locs hP1 hS => ?_)
  clear hP
  have hP := hP1
  clear hP1
  refine lv_aload_n hx hb dX2_init_0 rfl (lv_at hl 0 rfl) ?_
  refine W.objInit hx hb hown (hts (.methodLink RX2 3 objectInit) (List.mem_of_getElem? (i := 1) rfl)) (hts _ (List.mem_of_getElem? (i := 2) rfl)) (hts _ (List.mem_of_getElem? (i := 3) rfl)) rfl (by rw [hml]; exact hl.1) rfl dX2_init_1 (Nat.le_of_ble_eq_true rfl) (Nat.le_of_ble_eq_true rfl) ?_
  refine W.eq (g2 := F0 m 4 ls []) rfl ?_
  refine lv_aload_n hx hb dX2_init_4 rfl (lv_at hl 0 rfl) ?_
  refine lv_iload_n hx hb dX2_init_5 rfl (lv_at hl 1 rfl) ?_
  refine va_putF (D := D) (ci := 2) (v := .int ki) (ty := .int) (C := RX2) (T := TX2) (N := 3) hx hb hts hi_X2_init_2 tyX2 tyX2_ok nmX2 hown hK hP hD hS 0 rfl rfl 0 (by decide) (hts (.fieldLink RX2 9 "TheLiningsInIt$Pull" "kind" "I") (List.mem_of_getElem? (i := 4) rfl)) (fun _ h9 => h9) rfl hin rfl (by decide +kernel) rfl rfl (Nat.le_of_ble_eq_true rfl) dX2_init_6 (fun H locs hP hD hS => ?_)
  have h9R := zRe (ws' := [(u0, .inr (2, [.int ki, .int 0, .int 0]))]) hP hD rfl
  clear hP hD
  obtain ⟨hP, hD⟩ := h9R
  refine lv_aload_n hx hb dX2_init_9 rfl (lv_at hl 0 rfl) ?_
  refine lv_iload_n hx hb dX2_init_10 rfl (lv_at hl 2 rfl) ?_
  refine va_putF (D := D) (ci := 2) (v := .int a_) (ty := .int) (C := RX2) (T := TX2) (N := 3) hx hb hts hi_X2_init_2 tyX2 tyX2_ok nmX2 hown hK hP hD hS 0 rfl rfl 1 (by decide) (hts (.fieldLink RX2 15 "TheLiningsInIt$Pull" "a" "I") (List.mem_of_getElem? (i := 5) rfl)) (fun _ h9 => h9) rfl hin rfl (by decide +kernel) rfl rfl (Nat.le_of_ble_eq_true rfl) dX2_init_11 (fun H locs hP hD hS => ?_)
  have h9R := zRe (ws' := [(u0, .inr (2, [.int ki, .int a_, .int 0]))]) hP hD rfl
  clear hP hD
  obtain ⟨hP, hD⟩ := h9R
  refine lv_aload_n hx hb dX2_init_14 rfl (lv_at hl 0 rfl) ?_
  refine lv_iload_n hx hb dX2_init_15 rfl (lv_at hl 3 rfl) ?_
  refine va_putF (D := D) (ci := 2) (v := .int ta) (ty := .int) (C := RX2) (T := TX2) (N := 3) hx hb hts hi_X2_init_2 tyX2 tyX2_ok nmX2 hown hK hP hD hS 0 rfl rfl 2 (by decide) (hts (.fieldLink RX2 18 "TheLiningsInIt$Pull" "takes" "I") (List.mem_of_getElem? (i := 6) rfl)) (fun _ h9 => h9) rfl hin rfl (by decide +kernel) rfl rfl (Nat.le_of_ble_eq_true rfl) dX2_init_16 (fun H locs hP hD hS => ?_)
  have h9R := zRe (ws' := [(u0, .inr (2, [.int ki, .int a_, .int ta]))]) hP hD rfl
  clear hP hD
  obtain ⟨hP, hD⟩ := h9R
  exact W.vret hx hb hr (fun t ht hW => ⟨⟨(), rfl, trivial, zRet ht hP hD [0] (by decide) rfl⟩, hS.F ht⟩) hS.2.2 dX2_init_19
theorem hi_X0_addPull_0 : ∀ w ∈ u_ws RX0 TX0 9, w ∈ wsX0_addPull := fun w h => (goodIn_r (u_ws RX0 TX0 9) [15, 16, 17, 18, 19, 20, 21, 22, 23] rfl (by decide +kernel) w h).1
theorem hi_X0_addPull_2 : ∀ w ∈ u_ws RX2 TX2 3, w ∈ wsX0_addPull := fun w h => (goodIn_r (u_ws RX2 TX2 3) [24, 25, 26] rfl (by decide +kernel) w h).1
theorem hi_X3_tellItem_3 : ∀ w ∈ u_ws RX3 TX3 8, w ∈ wsX3_tellItem := fun w h => (goodIn_r (u_ws RX3 TX3 8) [49, 50, 51, 52, 53, 54, 55, 56] rfl (by decide +kernel) w h).1
theorem hi_X3_tellItem_0 : ∀ w ∈ u_ws RX0 TX0 9, w ∈ wsX3_tellItem := fun w h => (goodIn_r (u_ws RX0 TX0 9) [57, 58, 59, 60, 61, 62, 63, 64, 65] rfl (by decide +kernel) w h).1
theorem hi_X3_tellItem_6 : ∀ w ∈ u_ws RX6 TX6 5, w ∈ wsX3_tellItem := fun w h => (goodIn_r (u_ws RX6 TX6 5) [66, 67, 68, 69, 70] rfl (by decide +kernel) w h).1
