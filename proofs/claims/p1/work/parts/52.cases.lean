set_option maxHeartbeats 8000000 in
set_option maxRecDepth 100000 in
theorem law_case_11 {p : Program} {l : Launch} {e : Env} {s : State} {m : MethodId} {below : List Frame} {meth : Method} {c : Code} {D : va_G} {cI cJ cZ cP cS : ClassId} {b : Nat} {xs_ : Nat → Int32} (x0 xs j0 k0 w0 rd mv xr z0 jp jc zl zs kz kp kc kzl kzs wk wl wc wp ri rl mb m0 mrf mki mpa mta mla msl mco mhe mso msi msh mce mca mwo mnu mte mwa mke mma mth mtr : Nat) (sh el : Nat → Nat) (fw_ fn_ : Nat → Int32) (C0 : lw_At p s m meth c b 6 xs_) (hK : va_K D vwCl (zKT cI cJ cZ cP cS) s) (hN : zN s) (hZ : zSt (fun q : Nat => s.heap.size ≤ q) s s.heap) (H : Heap) (locs : List Loc) (hP : va_P D vwCl (zLW cI cJ cZ cP cS x0 xs j0 k0 w0 rd mv xr z0 jp jc zl zs kz kp kc kzl kzs wk wl wc wp ri rl mb m0 mrf mki mpa mta mla msl mco mhe mso msi msh mce mca mwo mnu mte mwa mke mma mth mtr sh el fw_ fn_) H) (hD : va_D (fun q : Nat => s.heap.size ≤ q) (zLW cI cJ cZ cP cS x0 xs j0 k0 w0 rd mv xr z0 jp jc zl zs kz kp kc kzl kzs wk wl wc wp ri rl mb m0 mrf mki mpa mta mla msl mco mhe mso msi msh mce mca mwo mnu mte mwa mke mma mth mtr sh el fw_ fn_)) (hS : va_S (fun q : Nat => s.heap.size ≤ q) s.heap H locs) (ls : Array Slot) (hl : lv_has ls 4 [(3, .int 0), (2, .ref m0), (1, .ref x0), (0, .ref b)]) : W p l e room_1 s m #[Value.ref b] below meth c H locs 100 10000 (lw_Z below #[Value.ref b] s) (F0 m 650 ls []) := by
  obtain ⟨hx, hb, hr, hml, hown0, hts, hX, hbl, hlocks, hgv⟩ := id C0
  have hown : s.vm.findClass RL = some m.cls := hown0
  have hA : ∀ q : Nat, s.heap.size ≤ q → (fun q : Nat => s.heap.size ≤ q) q := fun _ h => h
  have hbA : ¬ (fun q : Nat => s.heap.size ≤ q) b := Nat.not_le.mpr hbl
  replace hP : va_P D vwCl ((x0, .inr (7, [.ref xs, .ref j0, .ref k0, .ref w0, .ref rd, .ref mv, .ref xr, .int 0, .int (-1)])) :: (xs, .inl (cS, 8, .inr (.inr (.inr (.inr (zS sh)))))) :: (j0, .inr (0, [.ref z0, .ref jp, .ref jc, .int 0, .int 0, .int 0, .int 60, .int 0, .int 1])) :: (z0, .inr (6, [.ref zl, .ref zs, .int 20, .int 0, .int 3])) :: (zl, .inl (cZ, 40, .inl (fun _ => 0))) :: (zs, .inl (cI, 40, .inl (fun _ => 0))) :: (jp, .inl (cP, 8, .inr (.inr (.inr (.inr (fun _ => none)))))) :: (jc, .inl (cI, 3, .inl (zL3 5 10 50))) :: (k0, .inr (0, [.ref kz, .ref kp, .ref kc, .int 0, .int 0, .int 0, .int 60, .int 0, .int 1])) :: (kz, .inr (6, [.ref kzl, .ref kzs, .int 20, .int 0, .int 3])) :: (kzl, .inl (cZ, 40, .inl (fun _ => 0))) :: (kzs, .inl (cI, 40, .inl (fun _ => 0))) :: (kp, .inl (cP, 8, .inr (.inr (.inr (.inr (fun _ => none)))))) :: (kc, .inl (cI, 3, .inl (zL3 5 10 50))) :: (w0, .inr (5, [.ref wk, .ref wl, .ref wc, .ref wp, .int 0, .int 0, .int 0])) :: (wk, .inl (cI, 125, .inl (fun _ => 0))) :: (wl, .inl (cI, 125, .inl (fun _ => 0))) :: (wc, .inl (cI, 3, .inl (fun _ => 0))) :: (wp, .inl (cP, 8, .inr (.inr (.inr (.inr (fun _ => none)))))) :: (rd, .inr (3, [.ref ri, .ref rl, .int 0, .int 0, .int 0, .int (-1), .int 0, .int 0])) :: (ri, .inl (cI, 132, .inl (fun _ => 0))) :: (rl, .inl (cI, 160, .inl (fun _ => 0))) :: (mv, .inr (1, [.ref mb, .int 0, .int 0, .int 0, .int 0])) :: (mb, .inl (cI, 20, .inl (fun _ => 0))) :: (xr, .inl (cI, 8, .inl (fun _ => 0))) :: ((sh 0), .inr (4, [.ref (el 0), .int (-1), .int 0])) :: ((el 0), .inl (cJ, 160, .inr (.inl (fun _ => 0)))) :: ((sh 1), .inr (4, [.ref (el 1), .int (-1), .int 0])) :: ((el 1), .inl (cJ, 160, .inr (.inl (fun _ => 0)))) :: ((sh 2), .inr (4, [.ref (el 2), .int (-1), .int 0])) :: ((el 2), .inl (cJ, 160, .inr (.inl (fun _ => 0)))) :: ((sh 3), .inr (4, [.ref (el 3), .int (-1), .int 0])) :: ((el 3), .inl (cJ, 160, .inr (.inl (fun _ => 0)))) :: ((sh 4), .inr (4, [.ref (el 4), .int (-1), .int 0])) :: ((el 4), .inl (cJ, 160, .inr (.inl (fun _ => 0)))) :: ((sh 5), .inr (4, [.ref (el 5), .int (-1), .int 0])) :: ((el 5), .inl (cJ, 160, .inr (.inl (fun _ => 0)))) :: ((sh 6), .inr (4, [.ref (el 6), .int (-1), .int 0])) :: ((el 6), .inl (cJ, 160, .inr (.inl (fun _ => 0)))) :: ((sh 7), .inr (4, [.ref (el 7), .int (-1), .int 0])) :: ((el 7), .inl (cJ, 160, .inr (.inl (fun _ => 0)))) :: (m0, .inr (8, (.int 0 :: .int 20 :: .int 0 :: .int 0 :: .int 0 :: .int 60 :: .int 0 :: .int 3 :: .int 1 :: .int (-1) :: .ref mrf :: .ref mki :: .ref mpa :: .ref mta :: .ref mla :: .ref msl :: .ref mco :: .ref mhe :: .ref mso :: .ref msi :: .ref msh :: .ref mce :: .ref mca :: .ref mwo :: .ref mnu :: .ref mte :: .int 0 :: .int 0 :: .int 0 :: .int 0 :: .int 0 :: .ref mwa :: .ref mke :: .ref mma :: .ref mth :: .ref mtr :: .int 0 :: .int 0 :: []))) :: (mrf, .inl (cI, 8, .inl (fun _ => 0))) :: (mki, .inl (cI, 8, .inl (fun _ => 0))) :: (mpa, .inl (cI, 8, .inl (fun _ => 0))) :: (mta, .inl (cI, 8, .inl (fun _ => 0))) :: (mla, .inl (cI, 40, .inl (fun _ => 0))) :: (msl, .inl (cI, 40, .inl (fun _ => 0))) :: (mco, .inl (cI, 3, .inl (zL3 5 10 50))) :: (mhe, .inl (cI, 8, .inl (fun _ => 0))) :: (mso, .inl (cI, 8, .inl (fun _ => 0))) :: (msi, .inl (cI, 8, .inl (fun _ => 0))) :: (msh, .inl (cI, 8, .inl (fun _ => 0))) :: (mce, .inl (cJ, 1280, .inr (.inl (fun _ => 0)))) :: (mca, .inl (cJ, 160, .inr (.inl (fun _ => 0)))) :: (mwo, .inl (cI, 64, .inl fw_)) :: (mnu, .inl (cI, 10, .inl fn_)) :: (mte, .inl (cI, 3, .inl (fun _ => 0))) :: (mwa, .inl (cI, 130, .inl (fun _ => 0))) :: (mke, .inl (cI, 130, .inl (fun _ => 0))) :: (mma, .inl (cI, 3, .inl (fun _ => 0))) :: (mth, .inl (cI, 3, .inl (fun _ => 0))) :: (mtr, .inl (cI, 20, .inl (fun _ => 0))) :: []) H := hP
  replace hD : va_D _ ((x0, .inr (7, [.ref xs, .ref j0, .ref k0, .ref w0, .ref rd, .ref mv, .ref xr, .int 0, .int (-1)])) :: (xs, .inl (cS, 8, .inr (.inr (.inr (.inr (zS sh)))))) :: (j0, .inr (0, [.ref z0, .ref jp, .ref jc, .int 0, .int 0, .int 0, .int 60, .int 0, .int 1])) :: (z0, .inr (6, [.ref zl, .ref zs, .int 20, .int 0, .int 3])) :: (zl, .inl (cZ, 40, .inl (fun _ => 0))) :: (zs, .inl (cI, 40, .inl (fun _ => 0))) :: (jp, .inl (cP, 8, .inr (.inr (.inr (.inr (fun _ => none)))))) :: (jc, .inl (cI, 3, .inl (zL3 5 10 50))) :: (k0, .inr (0, [.ref kz, .ref kp, .ref kc, .int 0, .int 0, .int 0, .int 60, .int 0, .int 1])) :: (kz, .inr (6, [.ref kzl, .ref kzs, .int 20, .int 0, .int 3])) :: (kzl, .inl (cZ, 40, .inl (fun _ => 0))) :: (kzs, .inl (cI, 40, .inl (fun _ => 0))) :: (kp, .inl (cP, 8, .inr (.inr (.inr (.inr (fun _ => none)))))) :: (kc, .inl (cI, 3, .inl (zL3 5 10 50))) :: (w0, .inr (5, [.ref wk, .ref wl, .ref wc, .ref wp, .int 0, .int 0, .int 0])) :: (wk, .inl (cI, 125, .inl (fun _ => 0))) :: (wl, .inl (cI, 125, .inl (fun _ => 0))) :: (wc, .inl (cI, 3, .inl (fun _ => 0))) :: (wp, .inl (cP, 8, .inr (.inr (.inr (.inr (fun _ => none)))))) :: (rd, .inr (3, [.ref ri, .ref rl, .int 0, .int 0, .int 0, .int (-1), .int 0, .int 0])) :: (ri, .inl (cI, 132, .inl (fun _ => 0))) :: (rl, .inl (cI, 160, .inl (fun _ => 0))) :: (mv, .inr (1, [.ref mb, .int 0, .int 0, .int 0, .int 0])) :: (mb, .inl (cI, 20, .inl (fun _ => 0))) :: (xr, .inl (cI, 8, .inl (fun _ => 0))) :: ((sh 0), .inr (4, [.ref (el 0), .int (-1), .int 0])) :: ((el 0), .inl (cJ, 160, .inr (.inl (fun _ => 0)))) :: ((sh 1), .inr (4, [.ref (el 1), .int (-1), .int 0])) :: ((el 1), .inl (cJ, 160, .inr (.inl (fun _ => 0)))) :: ((sh 2), .inr (4, [.ref (el 2), .int (-1), .int 0])) :: ((el 2), .inl (cJ, 160, .inr (.inl (fun _ => 0)))) :: ((sh 3), .inr (4, [.ref (el 3), .int (-1), .int 0])) :: ((el 3), .inl (cJ, 160, .inr (.inl (fun _ => 0)))) :: ((sh 4), .inr (4, [.ref (el 4), .int (-1), .int 0])) :: ((el 4), .inl (cJ, 160, .inr (.inl (fun _ => 0)))) :: ((sh 5), .inr (4, [.ref (el 5), .int (-1), .int 0])) :: ((el 5), .inl (cJ, 160, .inr (.inl (fun _ => 0)))) :: ((sh 6), .inr (4, [.ref (el 6), .int (-1), .int 0])) :: ((el 6), .inl (cJ, 160, .inr (.inl (fun _ => 0)))) :: ((sh 7), .inr (4, [.ref (el 7), .int (-1), .int 0])) :: ((el 7), .inl (cJ, 160, .inr (.inl (fun _ => 0)))) :: (m0, .inr (8, (.int 0 :: .int 20 :: .int 0 :: .int 0 :: .int 0 :: .int 60 :: .int 0 :: .int 3 :: .int 1 :: .int (-1) :: .ref mrf :: .ref mki :: .ref mpa :: .ref mta :: .ref mla :: .ref msl :: .ref mco :: .ref mhe :: .ref mso :: .ref msi :: .ref msh :: .ref mce :: .ref mca :: .ref mwo :: .ref mnu :: .ref mte :: .int 0 :: .int 0 :: .int 0 :: .int 0 :: .int 0 :: .ref mwa :: .ref mke :: .ref mma :: .ref mth :: .ref mtr :: .int 0 :: .int 0 :: []))) :: (mrf, .inl (cI, 8, .inl (fun _ => 0))) :: (mki, .inl (cI, 8, .inl (fun _ => 0))) :: (mpa, .inl (cI, 8, .inl (fun _ => 0))) :: (mta, .inl (cI, 8, .inl (fun _ => 0))) :: (mla, .inl (cI, 40, .inl (fun _ => 0))) :: (msl, .inl (cI, 40, .inl (fun _ => 0))) :: (mco, .inl (cI, 3, .inl (zL3 5 10 50))) :: (mhe, .inl (cI, 8, .inl (fun _ => 0))) :: (mso, .inl (cI, 8, .inl (fun _ => 0))) :: (msi, .inl (cI, 8, .inl (fun _ => 0))) :: (msh, .inl (cI, 8, .inl (fun _ => 0))) :: (mce, .inl (cJ, 1280, .inr (.inl (fun _ => 0)))) :: (mca, .inl (cJ, 160, .inr (.inl (fun _ => 0)))) :: (mwo, .inl (cI, 64, .inl fw_)) :: (mnu, .inl (cI, 10, .inl fn_)) :: (mte, .inl (cI, 3, .inl (fun _ => 0))) :: (mwa, .inl (cI, 130, .inl (fun _ => 0))) :: (mke, .inl (cI, 130, .inl (fun _ => 0))) :: (mma, .inl (cI, 3, .inl (fun _ => 0))) :: (mth, .inl (cI, 3, .inl (fun _ => 0))) :: (mtr, .inl (cI, 20, .inl (fun _ => 0))) :: []) := hD
  refine lv_aload_n hx hb dL_law_650 rfl (lv_at hl 2 rfl) ?_
  refine lv_aload_n hx hb dL_law_651 rfl (lv_at hl 3 rfl) ?_
  refine lv_iload_n hx hb dL_law_652 rfl (lv_at hl 0 rfl) ?_
  refine lv_iconst (v := 1) hx hb dL_law_653 (by decide) ?_
  refine lv_iadd hx hb dL_law_654 ?_
  refine lv_topi (fun y_1 ey_1 => ?_)
  obtain rfl : y_1 = 1 := ey_1.trans (by decide)
  refine va_sld hx hb hX hbl hbA hS (zf_in (by decide) (by decide)) dL_law_655 ?_
  refine lv_topi (fun a_3 ea_3 => ?_)
  refine lv_aload_n hx hb dL_law_656 rfl (lv_at hl 3 rfl) ?_
  refine lv_iload_n hx hb dL_law_657 rfl (lv_at hl 0 rfl) ?_
  refine lv_iconst (v := 2) hx hb dL_law_658 (by decide) ?_
  refine lv_iadd hx hb dL_law_659 ?_
  refine lv_topi (fun y_4 ey_4 => ?_)
  obtain rfl : y_4 = 2 := ey_4.trans (by decide)
  refine va_sld hx hb hX hbl hbA hS (zf_in (by decide) (by decide)) dL_law_660 ?_
  refine lv_topi (fun a_6 ea_6 => ?_)
  skip
  refine zw_V (As := [.int a_3, .int a_6]) (rest := []) (wr := ((m0, .inr (8, (.int 0 :: .int 20 :: .int 0 :: .int 0 :: .int 0 :: .int 60 :: .int 0 :: .int 3 :: .int 1 :: .int (-1) :: .ref mrf :: .ref mki :: .ref mpa :: .ref mta :: .ref mla :: .ref msl :: .ref mco :: .ref mhe :: .ref mso :: .ref msi :: .ref msh :: .ref mce :: .ref mca :: .ref mwo :: .ref mnu :: .ref mte :: .int 0 :: .int 0 :: .int 0 :: .int 0 :: .int 0 :: .ref mwa :: .ref mke :: .ref mma :: .ref mth :: .ref mtr :: .int 0 :: .int 0 :: []))) :: (mrf, .inl (cI, 8, .inl (fun _ => 0))) :: (mki, .inl (cI, 8, .inl (fun _ => 0))) :: (mpa, .inl (cI, 8, .inl (fun _ => 0))) :: (mta, .inl (cI, 8, .inl (fun _ => 0))) :: (mla, .inl (cI, 40, .inl (fun _ => 0))) :: (msl, .inl (cI, 40, .inl (fun _ => 0))) :: (mco, .inl (cI, 3, .inl (zL3 5 10 50))) :: (mhe, .inl (cI, 8, .inl (fun _ => 0))) :: (mso, .inl (cI, 8, .inl (fun _ => 0))) :: (msi, .inl (cI, 8, .inl (fun _ => 0))) :: (msh, .inl (cI, 8, .inl (fun _ => 0))) :: (mce, .inl (cJ, 1280, .inr (.inl (fun _ => 0)))) :: (mca, .inl (cJ, 160, .inr (.inl (fun _ => 0)))) :: (mwo, .inl (cI, 64, .inl fw_)) :: (mnu, .inl (cI, 10, .inl fn_)) :: (mte, .inl (cI, 3, .inl (fun _ => 0))) :: (mwa, .inl (cI, 130, .inl (fun _ => 0))) :: (mke, .inl (cI, 130, .inl (fun _ => 0))) :: (mma, .inl (cI, 3, .inl (fun _ => 0))) :: (mth, .inl (cI, 3, .inl (fun _ => 0))) :: (mtr, .inl (cI, 20, .inl (fun _ => 0))) :: [])) ⟨hx, hb, hml, hown, hts⟩ (c_slack l D cI cJ cZ cP cS x0 xs j0 k0 w0 rd mv xr jp jc z0 zl zs (a_3) (a_6)  H.size) (cwV 2 hts gq_66 rfl rfl rfl (by decide +kernel) ⟨Nat.le_of_ble_eq_true rfl, Nat.le_of_ble_eq_true rfl⟩) hK hN (hZ.kept hS) hP hD hS hA [0, 24, 2, 3, 5] [41, 42, 43, 44, 45, 46, 47, 48, 49, 50, 51, 52, 53, 54, 55, 56, 57, 58, 59, 60, 61, 62] rfl rfl (by decide) (by decide) (by decide) (va_recv hK hP (ci := 7) (q0 := 0) rfl rfl) rfl hl.1 rfl (Nat.le_of_ble_eq_true rfl) dL_law_661 ⟨Nat.le_of_ble_eq_true rfl, Nat.le_of_ble_eq_true rfl⟩ (fun r_7 u_8 H locs hr_7 hP hD hS => ?_)
  replace hP : va_P D vwCl ((m0, .inr (8, (.int 0 :: .int 20 :: .int 0 :: .int 0 :: .int 0 :: .int 60 :: .int 0 :: .int 3 :: .int 1 :: .int (-1) :: .ref mrf :: .ref mki :: .ref mpa :: .ref mta :: .ref mla :: .ref msl :: .ref mco :: .ref mhe :: .ref mso :: .ref msi :: .ref msh :: .ref mce :: .ref mca :: .ref mwo :: .ref mnu :: .ref mte :: .int 0 :: .int 0 :: .int 0 :: .int 0 :: .int 0 :: .ref mwa :: .ref mke :: .ref mma :: .ref mth :: .ref mtr :: .int 0 :: .int 0 :: []))) :: (mrf, .inl (cI, 8, .inl (fun _ => 0))) :: (mki, .inl (cI, 8, .inl (fun _ => 0))) :: (mpa, .inl (cI, 8, .inl (fun _ => 0))) :: (mta, .inl (cI, 8, .inl (fun _ => 0))) :: (mla, .inl (cI, 40, .inl (fun _ => 0))) :: (msl, .inl (cI, 40, .inl (fun _ => 0))) :: (mco, .inl (cI, 3, .inl (zL3 5 10 50))) :: (mhe, .inl (cI, 8, .inl (fun _ => 0))) :: (mso, .inl (cI, 8, .inl (fun _ => 0))) :: (msi, .inl (cI, 8, .inl (fun _ => 0))) :: (msh, .inl (cI, 8, .inl (fun _ => 0))) :: (mce, .inl (cJ, 1280, .inr (.inl (fun _ => 0)))) :: (mca, .inl (cJ, 160, .inr (.inl (fun _ => 0)))) :: (mwo, .inl (cI, 64, .inl fw_)) :: (mnu, .inl (cI, 10, .inl fn_)) :: (mte, .inl (cI, 3, .inl (fun _ => 0))) :: (mwa, .inl (cI, 130, .inl (fun _ => 0))) :: (mke, .inl (cI, 130, .inl (fun _ => 0))) :: (mma, .inl (cI, 3, .inl (fun _ => 0))) :: (mth, .inl (cI, 3, .inl (fun _ => 0))) :: (mtr, .inl (cI, 20, .inl (fun _ => 0))) :: []) H := hP
  replace hD : va_D _ ((m0, .inr (8, (.int 0 :: .int 20 :: .int 0 :: .int 0 :: .int 0 :: .int 60 :: .int 0 :: .int 3 :: .int 1 :: .int (-1) :: .ref mrf :: .ref mki :: .ref mpa :: .ref mta :: .ref mla :: .ref msl :: .ref mco :: .ref mhe :: .ref mso :: .ref msi :: .ref msh :: .ref mce :: .ref mca :: .ref mwo :: .ref mnu :: .ref mte :: .int 0 :: .int 0 :: .int 0 :: .int 0 :: .int 0 :: .ref mwa :: .ref mke :: .ref mma :: .ref mth :: .ref mtr :: .int 0 :: .int 0 :: []))) :: (mrf, .inl (cI, 8, .inl (fun _ => 0))) :: (mki, .inl (cI, 8, .inl (fun _ => 0))) :: (mpa, .inl (cI, 8, .inl (fun _ => 0))) :: (mta, .inl (cI, 8, .inl (fun _ => 0))) :: (mla, .inl (cI, 40, .inl (fun _ => 0))) :: (msl, .inl (cI, 40, .inl (fun _ => 0))) :: (mco, .inl (cI, 3, .inl (zL3 5 10 50))) :: (mhe, .inl (cI, 8, .inl (fun _ => 0))) :: (mso, .inl (cI, 8, .inl (fun _ => 0))) :: (msi, .inl (cI, 8, .inl (fun _ => 0))) :: (msh, .inl (cI, 8, .inl (fun _ => 0))) :: (mce, .inl (cJ, 1280, .inr (.inl (fun _ => 0)))) :: (mca, .inl (cJ, 160, .inr (.inl (fun _ => 0)))) :: (mwo, .inl (cI, 64, .inl fw_)) :: (mnu, .inl (cI, 10, .inl fn_)) :: (mte, .inl (cI, 3, .inl (fun _ => 0))) :: (mwa, .inl (cI, 130, .inl (fun _ => 0))) :: (mke, .inl (cI, 130, .inl (fun _ => 0))) :: (mma, .inl (cI, 3, .inl (fun _ => 0))) :: (mth, .inl (cI, 3, .inl (fun _ => 0))) :: (mtr, .inl (cI, 20, .inl (fun _ => 0))) :: []) := hD
  rcases hr_7 with ⟨rfl, g_9⟩ | ⟨rfl, g_10, g_11⟩ | ⟨rfl, g_12, g_13, g_14⟩ | ⟨rfl, g_15, g_16, g_17, g_18⟩ | ⟨rfl, g_19, g_20, g_21, g_22⟩
  · refine lv_aload_n hx hb dL_law_664 rfl (lv_at hl 1 rfl) ?_
    refine lv_aload_n hx hb dL_law_665 rfl (lv_at hl 3 rfl) ?_
    refine lv_iload_n hx hb dL_law_666 rfl (lv_at hl 0 rfl) ?_
    refine lv_iconst (v := 1) hx hb dL_law_667 (by decide) ?_
    refine lv_iadd hx hb dL_law_668 ?_
    refine lv_topi (fun y_23 ey_23 => ?_)
    obtain rfl : y_23 = 1 := ey_23.trans (by decide)
    refine va_sld hx hb hX hbl hbA hS (zf_in (by decide) (by decide)) dL_law_669 ?_
    refine lv_topi (fun y_24 ey_24 => ?_)
    obtain rfl : a_3 = y_24 := ea_3.trans ey_24.symm
    refine lv_aload_n hx hb dL_law_670 rfl (lv_at hl 3 rfl) ?_
    refine lv_iload_n hx hb dL_law_671 rfl (lv_at hl 0 rfl) ?_
    refine lv_iconst (v := 2) hx hb dL_law_672 (by decide) ?_
    refine lv_iadd hx hb dL_law_673 ?_
    refine lv_topi (fun y_25 ey_25 => ?_)
    obtain rfl : y_25 = 2 := ey_25.trans (by decide)
    refine va_sld hx hb hX hbl hbA hS (zf_in (by decide) (by decide)) dL_law_674 ?_
    refine lv_topi (fun y_26 ey_26 => ?_)
    obtain rfl : a_6 = y_26 := ea_6.trans ey_26.symm
    skip
    refine zw_V (As := [.int a_3, .int a_6]) (rest := [.int (-1)]) (wr := [(mki, .inl (cI, 8, .inl (fun _ => 0))), (mpa, .inl (cI, 8, .inl (fun _ => 0))), (mta, .inl (cI, 8, .inl (fun _ => 0))), (mla, .inl (cI, 40, .inl (fun _ => 0))), (mco, .inl (cI, 3, .inl (zL3 5 10 50))), (mhe, .inl (cI, 8, .inl (fun _ => 0))), (mso, .inl (cI, 8, .inl (fun _ => 0))), (msi, .inl (cI, 8, .inl (fun _ => 0))), (msh, .inl (cI, 8, .inl (fun _ => 0))), (mce, .inl (cJ, 1280, .inr (.inl (fun _ => 0)))), (mca, .inl (cJ, 160, .inr (.inl (fun _ => 0)))), (mwo, .inl (cI, 64, .inl fw_)), (mnu, .inl (cI, 10, .inl fn_)), (mte, .inl (cI, 3, .inl (fun _ => 0))), (mwa, .inl (cI, 130, .inl (fun _ => 0))), (mke, .inl (cI, 130, .inl (fun _ => 0))), (mma, .inl (cI, 3, .inl (fun _ => 0))), (mth, .inl (cI, 3, .inl (fun _ => 0))), (mtr, .inl (cI, 20, .inl (fun _ => 0)))]) ⟨hx, hb, hml, hown, hts⟩ (c_M_slack l D cI cJ cZ cP cS m0 mrf mki mpa mta mla msl mco mhe mso msi msh mce mca mwo mnu mte mwa mke mma mth mtr (a_3) (a_6)  H.size) (cwV 2 hts gq_69 rfl rfl rfl (by decide +kernel) ⟨Nat.le_of_ble_eq_true rfl, Nat.le_of_ble_eq_true rfl⟩) hK hN (hZ.kept hS) hP hD hS hA [0, 1, 6] [2, 3, 4, 5, 7, 8, 9, 10, 11, 12, 13, 14, 15, 16, 17, 18, 19, 20, 21] rfl rfl (by decide) (by decide) (by decide) (va_recv hK hP (ci := 8) (q0 := 0) rfl rfl) rfl hl.1 rfl (Nat.le_of_ble_eq_true rfl) dL_law_675 ⟨Nat.le_of_ble_eq_true rfl, Nat.le_of_ble_eq_true rfl⟩ (fun r_27 u_28 H locs hr_27 hP hD hS => ?_)
    replace hP : va_P D vwCl [(mki, .inl (cI, 8, .inl (fun _ => 0))), (mpa, .inl (cI, 8, .inl (fun _ => 0))), (mta, .inl (cI, 8, .inl (fun _ => 0))), (mla, .inl (cI, 40, .inl (fun _ => 0))), (mco, .inl (cI, 3, .inl (zL3 5 10 50))), (mhe, .inl (cI, 8, .inl (fun _ => 0))), (mso, .inl (cI, 8, .inl (fun _ => 0))), (msi, .inl (cI, 8, .inl (fun _ => 0))), (msh, .inl (cI, 8, .inl (fun _ => 0))), (mce, .inl (cJ, 1280, .inr (.inl (fun _ => 0)))), (mca, .inl (cJ, 160, .inr (.inl (fun _ => 0)))), (mwo, .inl (cI, 64, .inl fw_)), (mnu, .inl (cI, 10, .inl fn_)), (mte, .inl (cI, 3, .inl (fun _ => 0))), (mwa, .inl (cI, 130, .inl (fun _ => 0))), (mke, .inl (cI, 130, .inl (fun _ => 0))), (mma, .inl (cI, 3, .inl (fun _ => 0))), (mth, .inl (cI, 3, .inl (fun _ => 0))), (mtr, .inl (cI, 20, .inl (fun _ => 0)))] H := hP
    replace hD : va_D _ [(mki, .inl (cI, 8, .inl (fun _ => 0))), (mpa, .inl (cI, 8, .inl (fun _ => 0))), (mta, .inl (cI, 8, .inl (fun _ => 0))), (mla, .inl (cI, 40, .inl (fun _ => 0))), (mco, .inl (cI, 3, .inl (zL3 5 10 50))), (mhe, .inl (cI, 8, .inl (fun _ => 0))), (mso, .inl (cI, 8, .inl (fun _ => 0))), (msi, .inl (cI, 8, .inl (fun _ => 0))), (msh, .inl (cI, 8, .inl (fun _ => 0))), (mce, .inl (cJ, 1280, .inr (.inl (fun _ => 0)))), (mca, .inl (cJ, 160, .inr (.inl (fun _ => 0)))), (mwo, .inl (cI, 64, .inl fw_)), (mnu, .inl (cI, 10, .inl fn_)), (mte, .inl (cI, 3, .inl (fun _ => 0))), (mwa, .inl (cI, 130, .inl (fun _ => 0))), (mke, .inl (cI, 130, .inl (fun _ => 0))), (mma, .inl (cI, 3, .inl (fun _ => 0))), (mth, .inl (cI, 3, .inl (fun _ => 0))), (mtr, .inl (cI, 20, .inl (fun _ => 0)))] := hD
    rcases hr_27 with ⟨rfl, g_29⟩ | ⟨rfl, g_30, g_31⟩ | ⟨rfl, g_32, g_33, g_34⟩ | ⟨rfl, g_35, g_36, g_37, g_38⟩ | ⟨rfl, g_39, g_40, g_41, g_42⟩
    · refine lv_icmp_eq (tgt := 1371) hx hb dL_law_678 (by decide) (fun c_43 => ?_) (fun c_43 => ?_)
      · refine lv_iinc (v := 6) (lv' := [(3, .int 6), (2, .ref m0), (1, .ref x0), (0, .ref b)]) hx hb dL_law_1371 hl (k := 0) rfl (by decide) (by decide) rfl (fun ls hl => ?_)
        refine lv_goto (tgt := 18) hx hb dL_law_1374 (by decide) ?_
        refine lv_iload_n hx hb dL_law_18 rfl (lv_at hl 0 rfl) ?_
        refine lv_aload_n hx hb dL_law_19 rfl (lv_at hl 3 rfl) ?_
        refine va_slen hx hb hX hbl hbA hS dL_law_20 ?_
        refine lv_topi (fun y_44 ey_44 => ?_)
        obtain rfl : y_44 = 6 := ey_44.trans (by decide)
        refine lv_bipush (v := 6) hx hb dL_law_21 (by decide) ?_
        refine lv_isub hx hb dL_law_23 ?_
        refine lv_topi (fun y_45 ey_45 => ?_)
        obtain rfl : y_45 = 0 := ey_45.trans (by decide)
        refine lv_icmp_gt (tgt := 1377) hx hb dL_law_24 (by decide) (fun c_46 => ?_) (fun c_46 => ?_)
        · refine lv_iconst (v := 1) hx hb dL_law_1377 (by decide) ?_
          refine va_forget (fun q hq => hS.2.2 q hq) ?_
          refine W.widen (k := 600000) (n := 7302250) (Nat.le_of_ble_eq_true rfl) (Nat.le_of_ble_eq_true rfl) ?_
          exact lw_ret hx hb hr hlocks dL_law_1378
        · exact absurd c_46 (by decide)
      · exact absurd c_43 (by decide)
    · exfalso; omega
    · exfalso; omega
    · exfalso; omega
    · exfalso; omega
  · refine lv_aload_n hx hb dL_law_664 rfl (lv_at hl 1 rfl) ?_
    refine lv_aload_n hx hb dL_law_665 rfl (lv_at hl 3 rfl) ?_
    refine lv_iload_n hx hb dL_law_666 rfl (lv_at hl 0 rfl) ?_
    refine lv_iconst (v := 1) hx hb dL_law_667 (by decide) ?_
    refine lv_iadd hx hb dL_law_668 ?_
    refine lv_topi (fun y_47 ey_47 => ?_)
    obtain rfl : y_47 = 1 := ey_47.trans (by decide)
    refine va_sld hx hb hX hbl hbA hS (zf_in (by decide) (by decide)) dL_law_669 ?_
    refine lv_topi (fun y_48 ey_48 => ?_)
    obtain rfl : a_3 = y_48 := ea_3.trans ey_48.symm
    refine lv_aload_n hx hb dL_law_670 rfl (lv_at hl 3 rfl) ?_
    refine lv_iload_n hx hb dL_law_671 rfl (lv_at hl 0 rfl) ?_
    refine lv_iconst (v := 2) hx hb dL_law_672 (by decide) ?_
    refine lv_iadd hx hb dL_law_673 ?_
    refine lv_topi (fun y_49 ey_49 => ?_)
    obtain rfl : y_49 = 2 := ey_49.trans (by decide)
    refine va_sld hx hb hX hbl hbA hS (zf_in (by decide) (by decide)) dL_law_674 ?_
    refine lv_topi (fun y_50 ey_50 => ?_)
    obtain rfl : a_6 = y_50 := ea_6.trans ey_50.symm
    skip
    refine zw_V (As := [.int a_3, .int a_6]) (rest := [.int (-1)]) (wr := [(mki, .inl (cI, 8, .inl (fun _ => 0))), (mpa, .inl (cI, 8, .inl (fun _ => 0))), (mta, .inl (cI, 8, .inl (fun _ => 0))), (mla, .inl (cI, 40, .inl (fun _ => 0))), (mco, .inl (cI, 3, .inl (zL3 5 10 50))), (mhe, .inl (cI, 8, .inl (fun _ => 0))), (mso, .inl (cI, 8, .inl (fun _ => 0))), (msi, .inl (cI, 8, .inl (fun _ => 0))), (msh, .inl (cI, 8, .inl (fun _ => 0))), (mce, .inl (cJ, 1280, .inr (.inl (fun _ => 0)))), (mca, .inl (cJ, 160, .inr (.inl (fun _ => 0)))), (mwo, .inl (cI, 64, .inl fw_)), (mnu, .inl (cI, 10, .inl fn_)), (mte, .inl (cI, 3, .inl (fun _ => 0))), (mwa, .inl (cI, 130, .inl (fun _ => 0))), (mke, .inl (cI, 130, .inl (fun _ => 0))), (mma, .inl (cI, 3, .inl (fun _ => 0))), (mth, .inl (cI, 3, .inl (fun _ => 0))), (mtr, .inl (cI, 20, .inl (fun _ => 0)))]) ⟨hx, hb, hml, hown, hts⟩ (c_M_slack l D cI cJ cZ cP cS m0 mrf mki mpa mta mla msl mco mhe mso msi msh mce mca mwo mnu mte mwa mke mma mth mtr (a_3) (a_6)  H.size) (cwV 2 hts gq_69 rfl rfl rfl (by decide +kernel) ⟨Nat.le_of_ble_eq_true rfl, Nat.le_of_ble_eq_true rfl⟩) hK hN (hZ.kept hS) hP hD hS hA [0, 1, 6] [2, 3, 4, 5, 7, 8, 9, 10, 11, 12, 13, 14, 15, 16, 17, 18, 19, 20, 21] rfl rfl (by decide) (by decide) (by decide) (va_recv hK hP (ci := 8) (q0 := 0) rfl rfl) rfl hl.1 rfl (Nat.le_of_ble_eq_true rfl) dL_law_675 ⟨Nat.le_of_ble_eq_true rfl, Nat.le_of_ble_eq_true rfl⟩ (fun r_51 u_52 H locs hr_51 hP hD hS => ?_)
    replace hP : va_P D vwCl [(mki, .inl (cI, 8, .inl (fun _ => 0))), (mpa, .inl (cI, 8, .inl (fun _ => 0))), (mta, .inl (cI, 8, .inl (fun _ => 0))), (mla, .inl (cI, 40, .inl (fun _ => 0))), (mco, .inl (cI, 3, .inl (zL3 5 10 50))), (mhe, .inl (cI, 8, .inl (fun _ => 0))), (mso, .inl (cI, 8, .inl (fun _ => 0))), (msi, .inl (cI, 8, .inl (fun _ => 0))), (msh, .inl (cI, 8, .inl (fun _ => 0))), (mce, .inl (cJ, 1280, .inr (.inl (fun _ => 0)))), (mca, .inl (cJ, 160, .inr (.inl (fun _ => 0)))), (mwo, .inl (cI, 64, .inl fw_)), (mnu, .inl (cI, 10, .inl fn_)), (mte, .inl (cI, 3, .inl (fun _ => 0))), (mwa, .inl (cI, 130, .inl (fun _ => 0))), (mke, .inl (cI, 130, .inl (fun _ => 0))), (mma, .inl (cI, 3, .inl (fun _ => 0))), (mth, .inl (cI, 3, .inl (fun _ => 0))), (mtr, .inl (cI, 20, .inl (fun _ => 0)))] H := hP
    replace hD : va_D _ [(mki, .inl (cI, 8, .inl (fun _ => 0))), (mpa, .inl (cI, 8, .inl (fun _ => 0))), (mta, .inl (cI, 8, .inl (fun _ => 0))), (mla, .inl (cI, 40, .inl (fun _ => 0))), (mco, .inl (cI, 3, .inl (zL3 5 10 50))), (mhe, .inl (cI, 8, .inl (fun _ => 0))), (mso, .inl (cI, 8, .inl (fun _ => 0))), (msi, .inl (cI, 8, .inl (fun _ => 0))), (msh, .inl (cI, 8, .inl (fun _ => 0))), (mce, .inl (cJ, 1280, .inr (.inl (fun _ => 0)))), (mca, .inl (cJ, 160, .inr (.inl (fun _ => 0)))), (mwo, .inl (cI, 64, .inl fw_)), (mnu, .inl (cI, 10, .inl fn_)), (mte, .inl (cI, 3, .inl (fun _ => 0))), (mwa, .inl (cI, 130, .inl (fun _ => 0))), (mke, .inl (cI, 130, .inl (fun _ => 0))), (mma, .inl (cI, 3, .inl (fun _ => 0))), (mth, .inl (cI, 3, .inl (fun _ => 0))), (mtr, .inl (cI, 20, .inl (fun _ => 0)))] := hD
    rcases hr_51 with ⟨rfl, g_53⟩ | ⟨rfl, g_54, g_55⟩ | ⟨rfl, g_56, g_57, g_58⟩ | ⟨rfl, g_59, g_60, g_61, g_62⟩ | ⟨rfl, g_63, g_64, g_65, g_66⟩
    · exfalso; omega
    · refine lv_icmp_eq (tgt := 1371) hx hb dL_law_678 (by decide) (fun c_67 => ?_) (fun c_67 => ?_)
      · refine lv_iinc (v := 6) (lv' := [(3, .int 6), (2, .ref m0), (1, .ref x0), (0, .ref b)]) hx hb dL_law_1371 hl (k := 0) rfl (by decide) (by decide) rfl (fun ls hl => ?_)
        refine lv_goto (tgt := 18) hx hb dL_law_1374 (by decide) ?_
        refine lv_iload_n hx hb dL_law_18 rfl (lv_at hl 0 rfl) ?_
        refine lv_aload_n hx hb dL_law_19 rfl (lv_at hl 3 rfl) ?_
        refine va_slen hx hb hX hbl hbA hS dL_law_20 ?_
        refine lv_topi (fun y_68 ey_68 => ?_)
        obtain rfl : y_68 = 6 := ey_68.trans (by decide)
        refine lv_bipush (v := 6) hx hb dL_law_21 (by decide) ?_
        refine lv_isub hx hb dL_law_23 ?_
        refine lv_topi (fun y_69 ey_69 => ?_)
        obtain rfl : y_69 = 0 := ey_69.trans (by decide)
        refine lv_icmp_gt (tgt := 1377) hx hb dL_law_24 (by decide) (fun c_70 => ?_) (fun c_70 => ?_)
        · refine lv_iconst (v := 1) hx hb dL_law_1377 (by decide) ?_
          refine va_forget (fun q hq => hS.2.2 q hq) ?_
          refine W.widen (k := 600000) (n := 7302250) (Nat.le_of_ble_eq_true rfl) (Nat.le_of_ble_eq_true rfl) ?_
          exact lw_ret hx hb hr hlocks dL_law_1378
        · exact absurd c_70 (by decide)
      · exact absurd c_67 (by decide)
    · exfalso; omega
    · exfalso; omega
    · exfalso; omega
  · refine lv_aload_n hx hb dL_law_664 rfl (lv_at hl 1 rfl) ?_
    refine lv_aload_n hx hb dL_law_665 rfl (lv_at hl 3 rfl) ?_
    refine lv_iload_n hx hb dL_law_666 rfl (lv_at hl 0 rfl) ?_
    refine lv_iconst (v := 1) hx hb dL_law_667 (by decide) ?_
    refine lv_iadd hx hb dL_law_668 ?_
    refine lv_topi (fun y_71 ey_71 => ?_)
    obtain rfl : y_71 = 1 := ey_71.trans (by decide)
    refine va_sld hx hb hX hbl hbA hS (zf_in (by decide) (by decide)) dL_law_669 ?_
    refine lv_topi (fun y_72 ey_72 => ?_)
    obtain rfl : a_3 = y_72 := ea_3.trans ey_72.symm
    refine lv_aload_n hx hb dL_law_670 rfl (lv_at hl 3 rfl) ?_
    refine lv_iload_n hx hb dL_law_671 rfl (lv_at hl 0 rfl) ?_
    refine lv_iconst (v := 2) hx hb dL_law_672 (by decide) ?_
    refine lv_iadd hx hb dL_law_673 ?_
    refine lv_topi (fun y_73 ey_73 => ?_)
    obtain rfl : y_73 = 2 := ey_73.trans (by decide)
    refine va_sld hx hb hX hbl hbA hS (zf_in (by decide) (by decide)) dL_law_674 ?_
    refine lv_topi (fun y_74 ey_74 => ?_)
    obtain rfl : a_6 = y_74 := ea_6.trans ey_74.symm
    skip
    refine zw_V (As := [.int a_3, .int a_6]) (rest := [.int (-6)]) (wr := [(mki, .inl (cI, 8, .inl (fun _ => 0))), (mpa, .inl (cI, 8, .inl (fun _ => 0))), (mta, .inl (cI, 8, .inl (fun _ => 0))), (mla, .inl (cI, 40, .inl (fun _ => 0))), (mco, .inl (cI, 3, .inl (zL3 5 10 50))), (mhe, .inl (cI, 8, .inl (fun _ => 0))), (mso, .inl (cI, 8, .inl (fun _ => 0))), (msi, .inl (cI, 8, .inl (fun _ => 0))), (msh, .inl (cI, 8, .inl (fun _ => 0))), (mce, .inl (cJ, 1280, .inr (.inl (fun _ => 0)))), (mca, .inl (cJ, 160, .inr (.inl (fun _ => 0)))), (mwo, .inl (cI, 64, .inl fw_)), (mnu, .inl (cI, 10, .inl fn_)), (mte, .inl (cI, 3, .inl (fun _ => 0))), (mwa, .inl (cI, 130, .inl (fun _ => 0))), (mke, .inl (cI, 130, .inl (fun _ => 0))), (mma, .inl (cI, 3, .inl (fun _ => 0))), (mth, .inl (cI, 3, .inl (fun _ => 0))), (mtr, .inl (cI, 20, .inl (fun _ => 0)))]) ⟨hx, hb, hml, hown, hts⟩ (c_M_slack l D cI cJ cZ cP cS m0 mrf mki mpa mta mla msl mco mhe mso msi msh mce mca mwo mnu mte mwa mke mma mth mtr (a_3) (a_6)  H.size) (cwV 2 hts gq_69 rfl rfl rfl (by decide +kernel) ⟨Nat.le_of_ble_eq_true rfl, Nat.le_of_ble_eq_true rfl⟩) hK hN (hZ.kept hS) hP hD hS hA [0, 1, 6] [2, 3, 4, 5, 7, 8, 9, 10, 11, 12, 13, 14, 15, 16, 17, 18, 19, 20, 21] rfl rfl (by decide) (by decide) (by decide) (va_recv hK hP (ci := 8) (q0 := 0) rfl rfl) rfl hl.1 rfl (Nat.le_of_ble_eq_true rfl) dL_law_675 ⟨Nat.le_of_ble_eq_true rfl, Nat.le_of_ble_eq_true rfl⟩ (fun r_75 u_76 H locs hr_75 hP hD hS => ?_)
    replace hP : va_P D vwCl [(mki, .inl (cI, 8, .inl (fun _ => 0))), (mpa, .inl (cI, 8, .inl (fun _ => 0))), (mta, .inl (cI, 8, .inl (fun _ => 0))), (mla, .inl (cI, 40, .inl (fun _ => 0))), (mco, .inl (cI, 3, .inl (zL3 5 10 50))), (mhe, .inl (cI, 8, .inl (fun _ => 0))), (mso, .inl (cI, 8, .inl (fun _ => 0))), (msi, .inl (cI, 8, .inl (fun _ => 0))), (msh, .inl (cI, 8, .inl (fun _ => 0))), (mce, .inl (cJ, 1280, .inr (.inl (fun _ => 0)))), (mca, .inl (cJ, 160, .inr (.inl (fun _ => 0)))), (mwo, .inl (cI, 64, .inl fw_)), (mnu, .inl (cI, 10, .inl fn_)), (mte, .inl (cI, 3, .inl (fun _ => 0))), (mwa, .inl (cI, 130, .inl (fun _ => 0))), (mke, .inl (cI, 130, .inl (fun _ => 0))), (mma, .inl (cI, 3, .inl (fun _ => 0))), (mth, .inl (cI, 3, .inl (fun _ => 0))), (mtr, .inl (cI, 20, .inl (fun _ => 0)))] H := hP
    replace hD : va_D _ [(mki, .inl (cI, 8, .inl (fun _ => 0))), (mpa, .inl (cI, 8, .inl (fun _ => 0))), (mta, .inl (cI, 8, .inl (fun _ => 0))), (mla, .inl (cI, 40, .inl (fun _ => 0))), (mco, .inl (cI, 3, .inl (zL3 5 10 50))), (mhe, .inl (cI, 8, .inl (fun _ => 0))), (mso, .inl (cI, 8, .inl (fun _ => 0))), (msi, .inl (cI, 8, .inl (fun _ => 0))), (msh, .inl (cI, 8, .inl (fun _ => 0))), (mce, .inl (cJ, 1280, .inr (.inl (fun _ => 0)))), (mca, .inl (cJ, 160, .inr (.inl (fun _ => 0)))), (mwo, .inl (cI, 64, .inl fw_)), (mnu, .inl (cI, 10, .inl fn_)), (mte, .inl (cI, 3, .inl (fun _ => 0))), (mwa, .inl (cI, 130, .inl (fun _ => 0))), (mke, .inl (cI, 130, .inl (fun _ => 0))), (mma, .inl (cI, 3, .inl (fun _ => 0))), (mth, .inl (cI, 3, .inl (fun _ => 0))), (mtr, .inl (cI, 20, .inl (fun _ => 0)))] := hD
    rcases hr_75 with ⟨rfl, g_77⟩ | ⟨rfl, g_78, g_79⟩ | ⟨rfl, g_80, g_81, g_82⟩ | ⟨rfl, g_83, g_84, g_85, g_86⟩ | ⟨rfl, g_87, g_88, g_89, g_90⟩
    · exfalso; omega
    · exfalso; omega
    · refine lv_icmp_eq (tgt := 1371) hx hb dL_law_678 (by decide) (fun c_91 => ?_) (fun c_91 => ?_)
      · refine lv_iinc (v := 6) (lv' := [(3, .int 6), (2, .ref m0), (1, .ref x0), (0, .ref b)]) hx hb dL_law_1371 hl (k := 0) rfl (by decide) (by decide) rfl (fun ls hl => ?_)
        refine lv_goto (tgt := 18) hx hb dL_law_1374 (by decide) ?_
        refine lv_iload_n hx hb dL_law_18 rfl (lv_at hl 0 rfl) ?_
        refine lv_aload_n hx hb dL_law_19 rfl (lv_at hl 3 rfl) ?_
        refine va_slen hx hb hX hbl hbA hS dL_law_20 ?_
        refine lv_topi (fun y_92 ey_92 => ?_)
        obtain rfl : y_92 = 6 := ey_92.trans (by decide)
        refine lv_bipush (v := 6) hx hb dL_law_21 (by decide) ?_
        refine lv_isub hx hb dL_law_23 ?_
        refine lv_topi (fun y_93 ey_93 => ?_)
        obtain rfl : y_93 = 0 := ey_93.trans (by decide)
        refine lv_icmp_gt (tgt := 1377) hx hb dL_law_24 (by decide) (fun c_94 => ?_) (fun c_94 => ?_)
        · refine lv_iconst (v := 1) hx hb dL_law_1377 (by decide) ?_
          refine va_forget (fun q hq => hS.2.2 q hq) ?_
          refine W.widen (k := 600000) (n := 7302250) (Nat.le_of_ble_eq_true rfl) (Nat.le_of_ble_eq_true rfl) ?_
          exact lw_ret hx hb hr hlocks dL_law_1378
        · exact absurd c_94 (by decide)
      · exact absurd c_91 (by decide)
    · exfalso; omega
    · exfalso; omega
  · refine lv_aload_n hx hb dL_law_664 rfl (lv_at hl 1 rfl) ?_
    refine lv_aload_n hx hb dL_law_665 rfl (lv_at hl 3 rfl) ?_
    refine lv_iload_n hx hb dL_law_666 rfl (lv_at hl 0 rfl) ?_
    refine lv_iconst (v := 1) hx hb dL_law_667 (by decide) ?_
    refine lv_iadd hx hb dL_law_668 ?_
    refine lv_topi (fun y_95 ey_95 => ?_)
    obtain rfl : y_95 = 1 := ey_95.trans (by decide)
    refine va_sld hx hb hX hbl hbA hS (zf_in (by decide) (by decide)) dL_law_669 ?_
    refine lv_topi (fun y_96 ey_96 => ?_)
    obtain rfl : a_3 = y_96 := ea_3.trans ey_96.symm
    refine lv_aload_n hx hb dL_law_670 rfl (lv_at hl 3 rfl) ?_
    refine lv_iload_n hx hb dL_law_671 rfl (lv_at hl 0 rfl) ?_
    refine lv_iconst (v := 2) hx hb dL_law_672 (by decide) ?_
    refine lv_iadd hx hb dL_law_673 ?_
    refine lv_topi (fun y_97 ey_97 => ?_)
    obtain rfl : y_97 = 2 := ey_97.trans (by decide)
    refine va_sld hx hb hX hbl hbA hS (zf_in (by decide) (by decide)) dL_law_674 ?_
    refine lv_topi (fun y_98 ey_98 => ?_)
    obtain rfl : a_6 = y_98 := ea_6.trans ey_98.symm
    skip
    refine zw_V (As := [.int a_3, .int a_6]) (rest := [.int (-6)]) (wr := [(mki, .inl (cI, 8, .inl (fun _ => 0))), (mpa, .inl (cI, 8, .inl (fun _ => 0))), (mta, .inl (cI, 8, .inl (fun _ => 0))), (mla, .inl (cI, 40, .inl (fun _ => 0))), (mco, .inl (cI, 3, .inl (zL3 5 10 50))), (mhe, .inl (cI, 8, .inl (fun _ => 0))), (mso, .inl (cI, 8, .inl (fun _ => 0))), (msi, .inl (cI, 8, .inl (fun _ => 0))), (msh, .inl (cI, 8, .inl (fun _ => 0))), (mce, .inl (cJ, 1280, .inr (.inl (fun _ => 0)))), (mca, .inl (cJ, 160, .inr (.inl (fun _ => 0)))), (mwo, .inl (cI, 64, .inl fw_)), (mnu, .inl (cI, 10, .inl fn_)), (mte, .inl (cI, 3, .inl (fun _ => 0))), (mwa, .inl (cI, 130, .inl (fun _ => 0))), (mke, .inl (cI, 130, .inl (fun _ => 0))), (mma, .inl (cI, 3, .inl (fun _ => 0))), (mth, .inl (cI, 3, .inl (fun _ => 0))), (mtr, .inl (cI, 20, .inl (fun _ => 0)))]) ⟨hx, hb, hml, hown, hts⟩ (c_M_slack l D cI cJ cZ cP cS m0 mrf mki mpa mta mla msl mco mhe mso msi msh mce mca mwo mnu mte mwa mke mma mth mtr (a_3) (a_6)  H.size) (cwV 2 hts gq_69 rfl rfl rfl (by decide +kernel) ⟨Nat.le_of_ble_eq_true rfl, Nat.le_of_ble_eq_true rfl⟩) hK hN (hZ.kept hS) hP hD hS hA [0, 1, 6] [2, 3, 4, 5, 7, 8, 9, 10, 11, 12, 13, 14, 15, 16, 17, 18, 19, 20, 21] rfl rfl (by decide) (by decide) (by decide) (va_recv hK hP (ci := 8) (q0 := 0) rfl rfl) rfl hl.1 rfl (Nat.le_of_ble_eq_true rfl) dL_law_675 ⟨Nat.le_of_ble_eq_true rfl, Nat.le_of_ble_eq_true rfl⟩ (fun r_99 u_100 H locs hr_99 hP hD hS => ?_)
    replace hP : va_P D vwCl [(mki, .inl (cI, 8, .inl (fun _ => 0))), (mpa, .inl (cI, 8, .inl (fun _ => 0))), (mta, .inl (cI, 8, .inl (fun _ => 0))), (mla, .inl (cI, 40, .inl (fun _ => 0))), (mco, .inl (cI, 3, .inl (zL3 5 10 50))), (mhe, .inl (cI, 8, .inl (fun _ => 0))), (mso, .inl (cI, 8, .inl (fun _ => 0))), (msi, .inl (cI, 8, .inl (fun _ => 0))), (msh, .inl (cI, 8, .inl (fun _ => 0))), (mce, .inl (cJ, 1280, .inr (.inl (fun _ => 0)))), (mca, .inl (cJ, 160, .inr (.inl (fun _ => 0)))), (mwo, .inl (cI, 64, .inl fw_)), (mnu, .inl (cI, 10, .inl fn_)), (mte, .inl (cI, 3, .inl (fun _ => 0))), (mwa, .inl (cI, 130, .inl (fun _ => 0))), (mke, .inl (cI, 130, .inl (fun _ => 0))), (mma, .inl (cI, 3, .inl (fun _ => 0))), (mth, .inl (cI, 3, .inl (fun _ => 0))), (mtr, .inl (cI, 20, .inl (fun _ => 0)))] H := hP
    replace hD : va_D _ [(mki, .inl (cI, 8, .inl (fun _ => 0))), (mpa, .inl (cI, 8, .inl (fun _ => 0))), (mta, .inl (cI, 8, .inl (fun _ => 0))), (mla, .inl (cI, 40, .inl (fun _ => 0))), (mco, .inl (cI, 3, .inl (zL3 5 10 50))), (mhe, .inl (cI, 8, .inl (fun _ => 0))), (mso, .inl (cI, 8, .inl (fun _ => 0))), (msi, .inl (cI, 8, .inl (fun _ => 0))), (msh, .inl (cI, 8, .inl (fun _ => 0))), (mce, .inl (cJ, 1280, .inr (.inl (fun _ => 0)))), (mca, .inl (cJ, 160, .inr (.inl (fun _ => 0)))), (mwo, .inl (cI, 64, .inl fw_)), (mnu, .inl (cI, 10, .inl fn_)), (mte, .inl (cI, 3, .inl (fun _ => 0))), (mwa, .inl (cI, 130, .inl (fun _ => 0))), (mke, .inl (cI, 130, .inl (fun _ => 0))), (mma, .inl (cI, 3, .inl (fun _ => 0))), (mth, .inl (cI, 3, .inl (fun _ => 0))), (mtr, .inl (cI, 20, .inl (fun _ => 0)))] := hD
    rcases hr_99 with ⟨rfl, g_101⟩ | ⟨rfl, g_102, g_103⟩ | ⟨rfl, g_104, g_105, g_106⟩ | ⟨rfl, g_107, g_108, g_109, g_110⟩ | ⟨rfl, g_111, g_112, g_113, g_114⟩
    · exfalso; omega
    · exfalso; omega
    · exfalso; omega
    · exfalso; omega
    · refine lv_icmp_eq (tgt := 1371) hx hb dL_law_678 (by decide) (fun c_115 => ?_) (fun c_115 => ?_)
      · refine lv_iinc (v := 6) (lv' := [(3, .int 6), (2, .ref m0), (1, .ref x0), (0, .ref b)]) hx hb dL_law_1371 hl (k := 0) rfl (by decide) (by decide) rfl (fun ls hl => ?_)
        refine lv_goto (tgt := 18) hx hb dL_law_1374 (by decide) ?_
        refine lv_iload_n hx hb dL_law_18 rfl (lv_at hl 0 rfl) ?_
        refine lv_aload_n hx hb dL_law_19 rfl (lv_at hl 3 rfl) ?_
        refine va_slen hx hb hX hbl hbA hS dL_law_20 ?_
        refine lv_topi (fun y_116 ey_116 => ?_)
        obtain rfl : y_116 = 6 := ey_116.trans (by decide)
        refine lv_bipush (v := 6) hx hb dL_law_21 (by decide) ?_
        refine lv_isub hx hb dL_law_23 ?_
        refine lv_topi (fun y_117 ey_117 => ?_)
        obtain rfl : y_117 = 0 := ey_117.trans (by decide)
        refine lv_icmp_gt (tgt := 1377) hx hb dL_law_24 (by decide) (fun c_118 => ?_) (fun c_118 => ?_)
        · refine lv_iconst (v := 1) hx hb dL_law_1377 (by decide) ?_
          refine va_forget (fun q hq => hS.2.2 q hq) ?_
          refine W.widen (k := 600000) (n := 7302250) (Nat.le_of_ble_eq_true rfl) (Nat.le_of_ble_eq_true rfl) ?_
          exact lw_ret hx hb hr hlocks dL_law_1378
        · exact absurd c_118 (by decide)
      · exact absurd c_115 (by decide)
  · refine lv_aload_n hx hb dL_law_664 rfl (lv_at hl 1 rfl) ?_
    refine lv_aload_n hx hb dL_law_665 rfl (lv_at hl 3 rfl) ?_
    refine lv_iload_n hx hb dL_law_666 rfl (lv_at hl 0 rfl) ?_
    refine lv_iconst (v := 1) hx hb dL_law_667 (by decide) ?_
    refine lv_iadd hx hb dL_law_668 ?_
    refine lv_topi (fun y_119 ey_119 => ?_)
    obtain rfl : y_119 = 1 := ey_119.trans (by decide)
    refine va_sld hx hb hX hbl hbA hS (zf_in (by decide) (by decide)) dL_law_669 ?_
    refine lv_topi (fun y_120 ey_120 => ?_)
    obtain rfl : a_3 = y_120 := ea_3.trans ey_120.symm
    refine lv_aload_n hx hb dL_law_670 rfl (lv_at hl 3 rfl) ?_
    refine lv_iload_n hx hb dL_law_671 rfl (lv_at hl 0 rfl) ?_
    refine lv_iconst (v := 2) hx hb dL_law_672 (by decide) ?_
    refine lv_iadd hx hb dL_law_673 ?_
    refine lv_topi (fun y_121 ey_121 => ?_)
    obtain rfl : y_121 = 2 := ey_121.trans (by decide)
    refine va_sld hx hb hX hbl hbA hS (zf_in (by decide) (by decide)) dL_law_674 ?_
    refine lv_topi (fun y_122 ey_122 => ?_)
    obtain rfl : a_6 = y_122 := ea_6.trans ey_122.symm
    skip
    refine zw_V (As := [.int a_3, .int a_6]) (rest := [.int 0]) (wr := [(mki, .inl (cI, 8, .inl (fun _ => 0))), (mpa, .inl (cI, 8, .inl (fun _ => 0))), (mta, .inl (cI, 8, .inl (fun _ => 0))), (mla, .inl (cI, 40, .inl (fun _ => 0))), (mco, .inl (cI, 3, .inl (zL3 5 10 50))), (mhe, .inl (cI, 8, .inl (fun _ => 0))), (mso, .inl (cI, 8, .inl (fun _ => 0))), (msi, .inl (cI, 8, .inl (fun _ => 0))), (msh, .inl (cI, 8, .inl (fun _ => 0))), (mce, .inl (cJ, 1280, .inr (.inl (fun _ => 0)))), (mca, .inl (cJ, 160, .inr (.inl (fun _ => 0)))), (mwo, .inl (cI, 64, .inl fw_)), (mnu, .inl (cI, 10, .inl fn_)), (mte, .inl (cI, 3, .inl (fun _ => 0))), (mwa, .inl (cI, 130, .inl (fun _ => 0))), (mke, .inl (cI, 130, .inl (fun _ => 0))), (mma, .inl (cI, 3, .inl (fun _ => 0))), (mth, .inl (cI, 3, .inl (fun _ => 0))), (mtr, .inl (cI, 20, .inl (fun _ => 0)))]) ⟨hx, hb, hml, hown, hts⟩ (c_M_slack l D cI cJ cZ cP cS m0 mrf mki mpa mta mla msl mco mhe mso msi msh mce mca mwo mnu mte mwa mke mma mth mtr (a_3) (a_6)  H.size) (cwV 2 hts gq_69 rfl rfl rfl (by decide +kernel) ⟨Nat.le_of_ble_eq_true rfl, Nat.le_of_ble_eq_true rfl⟩) hK hN (hZ.kept hS) hP hD hS hA [0, 1, 6] [2, 3, 4, 5, 7, 8, 9, 10, 11, 12, 13, 14, 15, 16, 17, 18, 19, 20, 21] rfl rfl (by decide) (by decide) (by decide) (va_recv hK hP (ci := 8) (q0 := 0) rfl rfl) rfl hl.1 rfl (Nat.le_of_ble_eq_true rfl) dL_law_675 ⟨Nat.le_of_ble_eq_true rfl, Nat.le_of_ble_eq_true rfl⟩ (fun r_123 u_124 H locs hr_123 hP hD hS => ?_)
    replace hP : va_P D vwCl [(mki, .inl (cI, 8, .inl (fun _ => 0))), (mpa, .inl (cI, 8, .inl (fun _ => 0))), (mta, .inl (cI, 8, .inl (fun _ => 0))), (mla, .inl (cI, 40, .inl (fun _ => 0))), (mco, .inl (cI, 3, .inl (zL3 5 10 50))), (mhe, .inl (cI, 8, .inl (fun _ => 0))), (mso, .inl (cI, 8, .inl (fun _ => 0))), (msi, .inl (cI, 8, .inl (fun _ => 0))), (msh, .inl (cI, 8, .inl (fun _ => 0))), (mce, .inl (cJ, 1280, .inr (.inl (fun _ => 0)))), (mca, .inl (cJ, 160, .inr (.inl (fun _ => 0)))), (mwo, .inl (cI, 64, .inl fw_)), (mnu, .inl (cI, 10, .inl fn_)), (mte, .inl (cI, 3, .inl (fun _ => 0))), (mwa, .inl (cI, 130, .inl (fun _ => 0))), (mke, .inl (cI, 130, .inl (fun _ => 0))), (mma, .inl (cI, 3, .inl (fun _ => 0))), (mth, .inl (cI, 3, .inl (fun _ => 0))), (mtr, .inl (cI, 20, .inl (fun _ => 0)))] H := hP
    replace hD : va_D _ [(mki, .inl (cI, 8, .inl (fun _ => 0))), (mpa, .inl (cI, 8, .inl (fun _ => 0))), (mta, .inl (cI, 8, .inl (fun _ => 0))), (mla, .inl (cI, 40, .inl (fun _ => 0))), (mco, .inl (cI, 3, .inl (zL3 5 10 50))), (mhe, .inl (cI, 8, .inl (fun _ => 0))), (mso, .inl (cI, 8, .inl (fun _ => 0))), (msi, .inl (cI, 8, .inl (fun _ => 0))), (msh, .inl (cI, 8, .inl (fun _ => 0))), (mce, .inl (cJ, 1280, .inr (.inl (fun _ => 0)))), (mca, .inl (cJ, 160, .inr (.inl (fun _ => 0)))), (mwo, .inl (cI, 64, .inl fw_)), (mnu, .inl (cI, 10, .inl fn_)), (mte, .inl (cI, 3, .inl (fun _ => 0))), (mwa, .inl (cI, 130, .inl (fun _ => 0))), (mke, .inl (cI, 130, .inl (fun _ => 0))), (mma, .inl (cI, 3, .inl (fun _ => 0))), (mth, .inl (cI, 3, .inl (fun _ => 0))), (mtr, .inl (cI, 20, .inl (fun _ => 0)))] := hD
    rcases hr_123 with ⟨rfl, g_125⟩ | ⟨rfl, g_126, g_127⟩ | ⟨rfl, g_128, g_129, g_130⟩ | ⟨rfl, g_131, g_132, g_133, g_134⟩ | ⟨rfl, g_135, g_136, g_137, g_138⟩
    · exfalso; omega
    · exfalso; omega
    · exfalso; omega
    · refine lv_icmp_eq (tgt := 1371) hx hb dL_law_678 (by decide) (fun c_139 => ?_) (fun c_139 => ?_)
      · refine lv_iinc (v := 6) (lv' := [(3, .int 6), (2, .ref m0), (1, .ref x0), (0, .ref b)]) hx hb dL_law_1371 hl (k := 0) rfl (by decide) (by decide) rfl (fun ls hl => ?_)
        refine lv_goto (tgt := 18) hx hb dL_law_1374 (by decide) ?_
        refine lv_iload_n hx hb dL_law_18 rfl (lv_at hl 0 rfl) ?_
        refine lv_aload_n hx hb dL_law_19 rfl (lv_at hl 3 rfl) ?_
        refine va_slen hx hb hX hbl hbA hS dL_law_20 ?_
        refine lv_topi (fun y_140 ey_140 => ?_)
        obtain rfl : y_140 = 6 := ey_140.trans (by decide)
        refine lv_bipush (v := 6) hx hb dL_law_21 (by decide) ?_
        refine lv_isub hx hb dL_law_23 ?_
        refine lv_topi (fun y_141 ey_141 => ?_)
        obtain rfl : y_141 = 0 := ey_141.trans (by decide)
        refine lv_icmp_gt (tgt := 1377) hx hb dL_law_24 (by decide) (fun c_142 => ?_) (fun c_142 => ?_)
        · refine lv_iconst (v := 1) hx hb dL_law_1377 (by decide) ?_
          refine va_forget (fun q hq => hS.2.2 q hq) ?_
          refine W.widen (k := 600000) (n := 7302250) (Nat.le_of_ble_eq_true rfl) (Nat.le_of_ble_eq_true rfl) ?_
          exact lw_ret hx hb hr hlocks dL_law_1378
        · exact absurd c_142 (by decide)
      · exact absurd c_139 (by decide)
    · exfalso; omega
set_option maxHeartbeats 8000000 in
set_option maxRecDepth 100000 in
theorem law_case_12 {p : Program} {l : Launch} {e : Env} {s : State} {m : MethodId} {below : List Frame} {meth : Method} {c : Code} {D : va_G} {cI cJ cZ cP cS : ClassId} {b : Nat} {xs_ : Nat → Int32} (x0 xs j0 k0 w0 rd mv xr z0 jp jc zl zs kz kp kc kzl kzs wk wl wc wp ri rl mb m0 mrf mki mpa mta mla msl mco mhe mso msi msh mce mca mwo mnu mte mwa mke mma mth mtr : Nat) (sh el : Nat → Nat) (fw_ fn_ : Nat → Int32) (C0 : lw_At p s m meth c b 6 xs_) (hK : va_K D vwCl (zKT cI cJ cZ cP cS) s) (hN : zN s) (hZ : zSt (fun q : Nat => s.heap.size ≤ q) s s.heap) (H : Heap) (locs : List Loc) (hP : va_P D vwCl (zLW cI cJ cZ cP cS x0 xs j0 k0 w0 rd mv xr z0 jp jc zl zs kz kp kc kzl kzs wk wl wc wp ri rl mb m0 mrf mki mpa mta mla msl mco mhe mso msi msh mce mca mwo mnu mte mwa mke mma mth mtr sh el fw_ fn_) H) (hD : va_D (fun q : Nat => s.heap.size ≤ q) (zLW cI cJ cZ cP cS x0 xs j0 k0 w0 rd mv xr z0 jp jc zl zs kz kp kc kzl kzs wk wl wc wp ri rl mb m0 mrf mki mpa mta mla msl mco mhe mso msi msh mce mca mwo mnu mte mwa mke mma mth mtr sh el fw_ fn_)) (hS : va_S (fun q : Nat => s.heap.size ≤ q) s.heap H locs) (ls : Array Slot) (hl : lv_has ls 4 [(3, .int 0), (2, .ref m0), (1, .ref x0), (0, .ref b)]) : W p l e room_1 s m #[Value.ref b] below meth c H locs 100 10000 (lw_Z below #[Value.ref b] s) (F0 m 683 ls []) := by
  obtain ⟨hx, hb, hr, hml, hown0, hts, hX, hbl, hlocks, hgv⟩ := id C0
  have hown : s.vm.findClass RL = some m.cls := hown0
  have hA : ∀ q : Nat, s.heap.size ≤ q → (fun q : Nat => s.heap.size ≤ q) q := fun _ h => h
  have hbA : ¬ (fun q : Nat => s.heap.size ≤ q) b := Nat.not_le.mpr hbl
  replace hP : va_P D vwCl ((x0, .inr (7, [.ref xs, .ref j0, .ref k0, .ref w0, .ref rd, .ref mv, .ref xr, .int 0, .int (-1)])) :: (xs, .inl (cS, 8, .inr (.inr (.inr (.inr (zS sh)))))) :: (j0, .inr (0, [.ref z0, .ref jp, .ref jc, .int 0, .int 0, .int 0, .int 60, .int 0, .int 1])) :: (z0, .inr (6, [.ref zl, .ref zs, .int 20, .int 0, .int 3])) :: (zl, .inl (cZ, 40, .inl (fun _ => 0))) :: (zs, .inl (cI, 40, .inl (fun _ => 0))) :: (jp, .inl (cP, 8, .inr (.inr (.inr (.inr (fun _ => none)))))) :: (jc, .inl (cI, 3, .inl (zL3 5 10 50))) :: (k0, .inr (0, [.ref kz, .ref kp, .ref kc, .int 0, .int 0, .int 0, .int 60, .int 0, .int 1])) :: (kz, .inr (6, [.ref kzl, .ref kzs, .int 20, .int 0, .int 3])) :: (kzl, .inl (cZ, 40, .inl (fun _ => 0))) :: (kzs, .inl (cI, 40, .inl (fun _ => 0))) :: (kp, .inl (cP, 8, .inr (.inr (.inr (.inr (fun _ => none)))))) :: (kc, .inl (cI, 3, .inl (zL3 5 10 50))) :: (w0, .inr (5, [.ref wk, .ref wl, .ref wc, .ref wp, .int 0, .int 0, .int 0])) :: (wk, .inl (cI, 125, .inl (fun _ => 0))) :: (wl, .inl (cI, 125, .inl (fun _ => 0))) :: (wc, .inl (cI, 3, .inl (fun _ => 0))) :: (wp, .inl (cP, 8, .inr (.inr (.inr (.inr (fun _ => none)))))) :: (rd, .inr (3, [.ref ri, .ref rl, .int 0, .int 0, .int 0, .int (-1), .int 0, .int 0])) :: (ri, .inl (cI, 132, .inl (fun _ => 0))) :: (rl, .inl (cI, 160, .inl (fun _ => 0))) :: (mv, .inr (1, [.ref mb, .int 0, .int 0, .int 0, .int 0])) :: (mb, .inl (cI, 20, .inl (fun _ => 0))) :: (xr, .inl (cI, 8, .inl (fun _ => 0))) :: ((sh 0), .inr (4, [.ref (el 0), .int (-1), .int 0])) :: ((el 0), .inl (cJ, 160, .inr (.inl (fun _ => 0)))) :: ((sh 1), .inr (4, [.ref (el 1), .int (-1), .int 0])) :: ((el 1), .inl (cJ, 160, .inr (.inl (fun _ => 0)))) :: ((sh 2), .inr (4, [.ref (el 2), .int (-1), .int 0])) :: ((el 2), .inl (cJ, 160, .inr (.inl (fun _ => 0)))) :: ((sh 3), .inr (4, [.ref (el 3), .int (-1), .int 0])) :: ((el 3), .inl (cJ, 160, .inr (.inl (fun _ => 0)))) :: ((sh 4), .inr (4, [.ref (el 4), .int (-1), .int 0])) :: ((el 4), .inl (cJ, 160, .inr (.inl (fun _ => 0)))) :: ((sh 5), .inr (4, [.ref (el 5), .int (-1), .int 0])) :: ((el 5), .inl (cJ, 160, .inr (.inl (fun _ => 0)))) :: ((sh 6), .inr (4, [.ref (el 6), .int (-1), .int 0])) :: ((el 6), .inl (cJ, 160, .inr (.inl (fun _ => 0)))) :: ((sh 7), .inr (4, [.ref (el 7), .int (-1), .int 0])) :: ((el 7), .inl (cJ, 160, .inr (.inl (fun _ => 0)))) :: (m0, .inr (8, (.int 0 :: .int 20 :: .int 0 :: .int 0 :: .int 0 :: .int 60 :: .int 0 :: .int 3 :: .int 1 :: .int (-1) :: .ref mrf :: .ref mki :: .ref mpa :: .ref mta :: .ref mla :: .ref msl :: .ref mco :: .ref mhe :: .ref mso :: .ref msi :: .ref msh :: .ref mce :: .ref mca :: .ref mwo :: .ref mnu :: .ref mte :: .int 0 :: .int 0 :: .int 0 :: .int 0 :: .int 0 :: .ref mwa :: .ref mke :: .ref mma :: .ref mth :: .ref mtr :: .int 0 :: .int 0 :: []))) :: (mrf, .inl (cI, 8, .inl (fun _ => 0))) :: (mki, .inl (cI, 8, .inl (fun _ => 0))) :: (mpa, .inl (cI, 8, .inl (fun _ => 0))) :: (mta, .inl (cI, 8, .inl (fun _ => 0))) :: (mla, .inl (cI, 40, .inl (fun _ => 0))) :: (msl, .inl (cI, 40, .inl (fun _ => 0))) :: (mco, .inl (cI, 3, .inl (zL3 5 10 50))) :: (mhe, .inl (cI, 8, .inl (fun _ => 0))) :: (mso, .inl (cI, 8, .inl (fun _ => 0))) :: (msi, .inl (cI, 8, .inl (fun _ => 0))) :: (msh, .inl (cI, 8, .inl (fun _ => 0))) :: (mce, .inl (cJ, 1280, .inr (.inl (fun _ => 0)))) :: (mca, .inl (cJ, 160, .inr (.inl (fun _ => 0)))) :: (mwo, .inl (cI, 64, .inl fw_)) :: (mnu, .inl (cI, 10, .inl fn_)) :: (mte, .inl (cI, 3, .inl (fun _ => 0))) :: (mwa, .inl (cI, 130, .inl (fun _ => 0))) :: (mke, .inl (cI, 130, .inl (fun _ => 0))) :: (mma, .inl (cI, 3, .inl (fun _ => 0))) :: (mth, .inl (cI, 3, .inl (fun _ => 0))) :: (mtr, .inl (cI, 20, .inl (fun _ => 0))) :: []) H := hP
  replace hD : va_D _ ((x0, .inr (7, [.ref xs, .ref j0, .ref k0, .ref w0, .ref rd, .ref mv, .ref xr, .int 0, .int (-1)])) :: (xs, .inl (cS, 8, .inr (.inr (.inr (.inr (zS sh)))))) :: (j0, .inr (0, [.ref z0, .ref jp, .ref jc, .int 0, .int 0, .int 0, .int 60, .int 0, .int 1])) :: (z0, .inr (6, [.ref zl, .ref zs, .int 20, .int 0, .int 3])) :: (zl, .inl (cZ, 40, .inl (fun _ => 0))) :: (zs, .inl (cI, 40, .inl (fun _ => 0))) :: (jp, .inl (cP, 8, .inr (.inr (.inr (.inr (fun _ => none)))))) :: (jc, .inl (cI, 3, .inl (zL3 5 10 50))) :: (k0, .inr (0, [.ref kz, .ref kp, .ref kc, .int 0, .int 0, .int 0, .int 60, .int 0, .int 1])) :: (kz, .inr (6, [.ref kzl, .ref kzs, .int 20, .int 0, .int 3])) :: (kzl, .inl (cZ, 40, .inl (fun _ => 0))) :: (kzs, .inl (cI, 40, .inl (fun _ => 0))) :: (kp, .inl (cP, 8, .inr (.inr (.inr (.inr (fun _ => none)))))) :: (kc, .inl (cI, 3, .inl (zL3 5 10 50))) :: (w0, .inr (5, [.ref wk, .ref wl, .ref wc, .ref wp, .int 0, .int 0, .int 0])) :: (wk, .inl (cI, 125, .inl (fun _ => 0))) :: (wl, .inl (cI, 125, .inl (fun _ => 0))) :: (wc, .inl (cI, 3, .inl (fun _ => 0))) :: (wp, .inl (cP, 8, .inr (.inr (.inr (.inr (fun _ => none)))))) :: (rd, .inr (3, [.ref ri, .ref rl, .int 0, .int 0, .int 0, .int (-1), .int 0, .int 0])) :: (ri, .inl (cI, 132, .inl (fun _ => 0))) :: (rl, .inl (cI, 160, .inl (fun _ => 0))) :: (mv, .inr (1, [.ref mb, .int 0, .int 0, .int 0, .int 0])) :: (mb, .inl (cI, 20, .inl (fun _ => 0))) :: (xr, .inl (cI, 8, .inl (fun _ => 0))) :: ((sh 0), .inr (4, [.ref (el 0), .int (-1), .int 0])) :: ((el 0), .inl (cJ, 160, .inr (.inl (fun _ => 0)))) :: ((sh 1), .inr (4, [.ref (el 1), .int (-1), .int 0])) :: ((el 1), .inl (cJ, 160, .inr (.inl (fun _ => 0)))) :: ((sh 2), .inr (4, [.ref (el 2), .int (-1), .int 0])) :: ((el 2), .inl (cJ, 160, .inr (.inl (fun _ => 0)))) :: ((sh 3), .inr (4, [.ref (el 3), .int (-1), .int 0])) :: ((el 3), .inl (cJ, 160, .inr (.inl (fun _ => 0)))) :: ((sh 4), .inr (4, [.ref (el 4), .int (-1), .int 0])) :: ((el 4), .inl (cJ, 160, .inr (.inl (fun _ => 0)))) :: ((sh 5), .inr (4, [.ref (el 5), .int (-1), .int 0])) :: ((el 5), .inl (cJ, 160, .inr (.inl (fun _ => 0)))) :: ((sh 6), .inr (4, [.ref (el 6), .int (-1), .int 0])) :: ((el 6), .inl (cJ, 160, .inr (.inl (fun _ => 0)))) :: ((sh 7), .inr (4, [.ref (el 7), .int (-1), .int 0])) :: ((el 7), .inl (cJ, 160, .inr (.inl (fun _ => 0)))) :: (m0, .inr (8, (.int 0 :: .int 20 :: .int 0 :: .int 0 :: .int 0 :: .int 60 :: .int 0 :: .int 3 :: .int 1 :: .int (-1) :: .ref mrf :: .ref mki :: .ref mpa :: .ref mta :: .ref mla :: .ref msl :: .ref mco :: .ref mhe :: .ref mso :: .ref msi :: .ref msh :: .ref mce :: .ref mca :: .ref mwo :: .ref mnu :: .ref mte :: .int 0 :: .int 0 :: .int 0 :: .int 0 :: .int 0 :: .ref mwa :: .ref mke :: .ref mma :: .ref mth :: .ref mtr :: .int 0 :: .int 0 :: []))) :: (mrf, .inl (cI, 8, .inl (fun _ => 0))) :: (mki, .inl (cI, 8, .inl (fun _ => 0))) :: (mpa, .inl (cI, 8, .inl (fun _ => 0))) :: (mta, .inl (cI, 8, .inl (fun _ => 0))) :: (mla, .inl (cI, 40, .inl (fun _ => 0))) :: (msl, .inl (cI, 40, .inl (fun _ => 0))) :: (mco, .inl (cI, 3, .inl (zL3 5 10 50))) :: (mhe, .inl (cI, 8, .inl (fun _ => 0))) :: (mso, .inl (cI, 8, .inl (fun _ => 0))) :: (msi, .inl (cI, 8, .inl (fun _ => 0))) :: (msh, .inl (cI, 8, .inl (fun _ => 0))) :: (mce, .inl (cJ, 1280, .inr (.inl (fun _ => 0)))) :: (mca, .inl (cJ, 160, .inr (.inl (fun _ => 0)))) :: (mwo, .inl (cI, 64, .inl fw_)) :: (mnu, .inl (cI, 10, .inl fn_)) :: (mte, .inl (cI, 3, .inl (fun _ => 0))) :: (mwa, .inl (cI, 130, .inl (fun _ => 0))) :: (mke, .inl (cI, 130, .inl (fun _ => 0))) :: (mma, .inl (cI, 3, .inl (fun _ => 0))) :: (mth, .inl (cI, 3, .inl (fun _ => 0))) :: (mtr, .inl (cI, 20, .inl (fun _ => 0))) :: []) := hD
  refine lv_aload_n hx hb dL_law_683 rfl (lv_at hl 2 rfl) ?_
  refine lv_aload_n hx hb dL_law_684 rfl (lv_at hl 3 rfl) ?_
  refine lv_iload_n hx hb dL_law_685 rfl (lv_at hl 0 rfl) ?_
  refine lv_iconst (v := 1) hx hb dL_law_686 (by decide) ?_
  refine lv_iadd hx hb dL_law_687 ?_
  refine lv_topi (fun y_1 ey_1 => ?_)
  obtain rfl : y_1 = 1 := ey_1.trans (by decide)
  refine va_sld hx hb hX hbl hbA hS (zf_in (by decide) (by decide)) dL_law_688 ?_
  refine lv_topi (fun a_3 ea_3 => ?_)
  refine lv_aload_n hx hb dL_law_689 rfl (lv_at hl 3 rfl) ?_
  refine lv_iload_n hx hb dL_law_690 rfl (lv_at hl 0 rfl) ?_
  refine lv_iconst (v := 2) hx hb dL_law_691 (by decide) ?_
  refine lv_iadd hx hb dL_law_692 ?_
  refine lv_topi (fun y_4 ey_4 => ?_)
  obtain rfl : y_4 = 2 := ey_4.trans (by decide)
  refine va_sld hx hb hX hbl hbA hS (zf_in (by decide) (by decide)) dL_law_693 ?_
  refine lv_topi (fun a_6 ea_6 => ?_)
  skip
  refine zw_V (As := [.int a_3, .int a_6]) (rest := []) (wr := ((m0, .inr (8, (.int 0 :: .int 20 :: .int 0 :: .int 0 :: .int 0 :: .int 60 :: .int 0 :: .int 3 :: .int 1 :: .int (-1) :: .ref mrf :: .ref mki :: .ref mpa :: .ref mta :: .ref mla :: .ref msl :: .ref mco :: .ref mhe :: .ref mso :: .ref msi :: .ref msh :: .ref mce :: .ref mca :: .ref mwo :: .ref mnu :: .ref mte :: .int 0 :: .int 0 :: .int 0 :: .int 0 :: .int 0 :: .ref mwa :: .ref mke :: .ref mma :: .ref mth :: .ref mtr :: .int 0 :: .int 0 :: []))) :: (mrf, .inl (cI, 8, .inl (fun _ => 0))) :: (mki, .inl (cI, 8, .inl (fun _ => 0))) :: (mpa, .inl (cI, 8, .inl (fun _ => 0))) :: (mta, .inl (cI, 8, .inl (fun _ => 0))) :: (mla, .inl (cI, 40, .inl (fun _ => 0))) :: (msl, .inl (cI, 40, .inl (fun _ => 0))) :: (mco, .inl (cI, 3, .inl (zL3 5 10 50))) :: (mhe, .inl (cI, 8, .inl (fun _ => 0))) :: (mso, .inl (cI, 8, .inl (fun _ => 0))) :: (msi, .inl (cI, 8, .inl (fun _ => 0))) :: (msh, .inl (cI, 8, .inl (fun _ => 0))) :: (mce, .inl (cJ, 1280, .inr (.inl (fun _ => 0)))) :: (mca, .inl (cJ, 160, .inr (.inl (fun _ => 0)))) :: (mwo, .inl (cI, 64, .inl fw_)) :: (mnu, .inl (cI, 10, .inl fn_)) :: (mte, .inl (cI, 3, .inl (fun _ => 0))) :: (mwa, .inl (cI, 130, .inl (fun _ => 0))) :: (mke, .inl (cI, 130, .inl (fun _ => 0))) :: (mma, .inl (cI, 3, .inl (fun _ => 0))) :: (mth, .inl (cI, 3, .inl (fun _ => 0))) :: (mtr, .inl (cI, 20, .inl (fun _ => 0))) :: [])) ⟨hx, hb, hml, hown, hts⟩ (c_ask l D cI cJ cZ cP cS x0 xs j0 k0 w0 rd mv xr jp jc z0 zl zs (a_3) (a_6)  H.size) (cwV 2 hts gq_70 rfl rfl rfl (by decide +kernel) ⟨Nat.le_of_ble_eq_true rfl, Nat.le_of_ble_eq_true rfl⟩) hK hN (hZ.kept hS) hP hD hS hA [0, 24, 2, 3, 7] [41, 42, 43, 44, 45, 46, 47, 48, 49, 50, 51, 52, 53, 54, 55, 56, 57, 58, 59, 60, 61, 62] rfl rfl (by decide) (by decide) (by decide) (va_recv hK hP (ci := 7) (q0 := 0) rfl rfl) rfl hl.1 rfl (Nat.le_of_ble_eq_true rfl) dL_law_694 ⟨Nat.le_of_ble_eq_true rfl, Nat.le_of_ble_eq_true rfl⟩ (fun r_7 u_8 H locs hr_7 hP hD hS => ?_)
  replace hP : va_P D vwCl ((m0, .inr (8, (.int 0 :: .int 20 :: .int 0 :: .int 0 :: .int 0 :: .int 60 :: .int 0 :: .int 3 :: .int 1 :: .int (-1) :: .ref mrf :: .ref mki :: .ref mpa :: .ref mta :: .ref mla :: .ref msl :: .ref mco :: .ref mhe :: .ref mso :: .ref msi :: .ref msh :: .ref mce :: .ref mca :: .ref mwo :: .ref mnu :: .ref mte :: .int 0 :: .int 0 :: .int 0 :: .int 0 :: .int 0 :: .ref mwa :: .ref mke :: .ref mma :: .ref mth :: .ref mtr :: .int 0 :: .int 0 :: []))) :: (mrf, .inl (cI, 8, .inl (fun _ => 0))) :: (mki, .inl (cI, 8, .inl (fun _ => 0))) :: (mpa, .inl (cI, 8, .inl (fun _ => 0))) :: (mta, .inl (cI, 8, .inl (fun _ => 0))) :: (mla, .inl (cI, 40, .inl (fun _ => 0))) :: (msl, .inl (cI, 40, .inl (fun _ => 0))) :: (mco, .inl (cI, 3, .inl (zL3 5 10 50))) :: (mhe, .inl (cI, 8, .inl (fun _ => 0))) :: (mso, .inl (cI, 8, .inl (fun _ => 0))) :: (msi, .inl (cI, 8, .inl (fun _ => 0))) :: (msh, .inl (cI, 8, .inl (fun _ => 0))) :: (mce, .inl (cJ, 1280, .inr (.inl (fun _ => 0)))) :: (mca, .inl (cJ, 160, .inr (.inl (fun _ => 0)))) :: (mwo, .inl (cI, 64, .inl fw_)) :: (mnu, .inl (cI, 10, .inl fn_)) :: (mte, .inl (cI, 3, .inl (fun _ => 0))) :: (mwa, .inl (cI, 130, .inl (fun _ => 0))) :: (mke, .inl (cI, 130, .inl (fun _ => 0))) :: (mma, .inl (cI, 3, .inl (fun _ => 0))) :: (mth, .inl (cI, 3, .inl (fun _ => 0))) :: (mtr, .inl (cI, 20, .inl (fun _ => 0))) :: []) H := hP
  replace hD : va_D _ ((m0, .inr (8, (.int 0 :: .int 20 :: .int 0 :: .int 0 :: .int 0 :: .int 60 :: .int 0 :: .int 3 :: .int 1 :: .int (-1) :: .ref mrf :: .ref mki :: .ref mpa :: .ref mta :: .ref mla :: .ref msl :: .ref mco :: .ref mhe :: .ref mso :: .ref msi :: .ref msh :: .ref mce :: .ref mca :: .ref mwo :: .ref mnu :: .ref mte :: .int 0 :: .int 0 :: .int 0 :: .int 0 :: .int 0 :: .ref mwa :: .ref mke :: .ref mma :: .ref mth :: .ref mtr :: .int 0 :: .int 0 :: []))) :: (mrf, .inl (cI, 8, .inl (fun _ => 0))) :: (mki, .inl (cI, 8, .inl (fun _ => 0))) :: (mpa, .inl (cI, 8, .inl (fun _ => 0))) :: (mta, .inl (cI, 8, .inl (fun _ => 0))) :: (mla, .inl (cI, 40, .inl (fun _ => 0))) :: (msl, .inl (cI, 40, .inl (fun _ => 0))) :: (mco, .inl (cI, 3, .inl (zL3 5 10 50))) :: (mhe, .inl (cI, 8, .inl (fun _ => 0))) :: (mso, .inl (cI, 8, .inl (fun _ => 0))) :: (msi, .inl (cI, 8, .inl (fun _ => 0))) :: (msh, .inl (cI, 8, .inl (fun _ => 0))) :: (mce, .inl (cJ, 1280, .inr (.inl (fun _ => 0)))) :: (mca, .inl (cJ, 160, .inr (.inl (fun _ => 0)))) :: (mwo, .inl (cI, 64, .inl fw_)) :: (mnu, .inl (cI, 10, .inl fn_)) :: (mte, .inl (cI, 3, .inl (fun _ => 0))) :: (mwa, .inl (cI, 130, .inl (fun _ => 0))) :: (mke, .inl (cI, 130, .inl (fun _ => 0))) :: (mma, .inl (cI, 3, .inl (fun _ => 0))) :: (mth, .inl (cI, 3, .inl (fun _ => 0))) :: (mtr, .inl (cI, 20, .inl (fun _ => 0))) :: []) := hD
  rcases hr_7 with ⟨rfl, g_9⟩ | ⟨rfl, g_10, g_11⟩ | ⟨rfl, g_12, g_13, g_14, g_15, g_16⟩ | ⟨rfl, g_17, g_18, g_19, g_20, g_21, g_22⟩ | ⟨rfl, g_23, g_24, g_25, g_26, g_27, g_28⟩ | ⟨rfl, g_29, g_30, g_31, g_32, g_33⟩ | ⟨rfl, g_34, g_35, g_36, g_37, g_38, g_39⟩ | ⟨rfl, g_40, g_41, g_42, g_43, g_44, g_45⟩ | ⟨rfl, g_46, g_47, g_48, g_49, g_50⟩ | ⟨rfl, g_51, g_52, g_53, g_54, g_55, g_56⟩ | ⟨rfl, g_57, g_58, g_59, g_60, g_61, g_62⟩ | ⟨rfl, g_63, g_64, g_65, g_66, g_67⟩ | ⟨rfl, g_68, g_69, g_70, g_71, g_72, g_73⟩ | ⟨rfl, g_74, g_75, g_76, g_77, g_78, g_79⟩ | ⟨rfl, g_80, g_81, g_82, g_83, g_84⟩ | ⟨rfl, g_85, g_86, g_87, g_88, g_89, g_90⟩ | ⟨rfl, g_91, g_92, g_93, g_94, g_95, g_96⟩ | ⟨rfl, g_97, g_98, g_99, g_100, g_101⟩ | ⟨rfl, g_102, g_103, g_104, g_105, g_106, g_107⟩ | ⟨rfl, g_108, g_109, g_110, g_111, g_112, g_113⟩ | ⟨rfl, g_114, g_115, g_116, g_117, g_118⟩ | ⟨rfl, g_119, g_120, g_121, g_122, g_123, g_124⟩ | ⟨rfl, g_125, g_126, g_127, g_128, g_129, g_130⟩ | ⟨rfl, g_131, g_132, g_133, g_134, g_135⟩ | ⟨rfl, g_136, g_137, g_138, g_139, g_140, g_141⟩ | ⟨rfl, g_142, g_143, g_144, g_145, g_146, g_147⟩ | ⟨rfl, g_148, g_149, g_150, g_151⟩ | ⟨rfl, g_152, g_153, g_154, g_155, g_156⟩ | ⟨rfl, g_157, g_158, g_159, g_160, g_161⟩
  · refine lv_aload_n hx hb dL_law_697 rfl (lv_at hl 1 rfl) ?_
    refine lv_aload_n hx hb dL_law_698 rfl (lv_at hl 3 rfl) ?_
    refine lv_iload_n hx hb dL_law_699 rfl (lv_at hl 0 rfl) ?_
    refine lv_iconst (v := 1) hx hb dL_law_700 (by decide) ?_
    refine lv_iadd hx hb dL_law_701 ?_
    refine lv_topi (fun y_162 ey_162 => ?_)
    obtain rfl : y_162 = 1 := ey_162.trans (by decide)
    refine va_sld hx hb hX hbl hbA hS (zf_in (by decide) (by decide)) dL_law_702 ?_
    refine lv_topi (fun y_163 ey_163 => ?_)
    obtain rfl : a_3 = y_163 := ea_3.trans ey_163.symm
    refine lv_aload_n hx hb dL_law_703 rfl (lv_at hl 3 rfl) ?_
    refine lv_iload_n hx hb dL_law_704 rfl (lv_at hl 0 rfl) ?_
    refine lv_iconst (v := 2) hx hb dL_law_705 (by decide) ?_
    refine lv_iadd hx hb dL_law_706 ?_
    refine lv_topi (fun y_164 ey_164 => ?_)
    obtain rfl : y_164 = 2 := ey_164.trans (by decide)
    refine va_sld hx hb hX hbl hbA hS (zf_in (by decide) (by decide)) dL_law_707 ?_
    refine lv_topi (fun y_165 ey_165 => ?_)
    obtain rfl : a_6 = y_165 := ea_6.trans ey_165.symm
    skip
    refine zw_V (As := [.int a_3, .int a_6]) (rest := [.int (-6)]) (wr := [(mki, .inl (cI, 8, .inl (fun _ => 0))), (mpa, .inl (cI, 8, .inl (fun _ => 0))), (mta, .inl (cI, 8, .inl (fun _ => 0))), (mla, .inl (cI, 40, .inl (fun _ => 0))), (msl, .inl (cI, 40, .inl (fun _ => 0))), (mhe, .inl (cI, 8, .inl (fun _ => 0))), (mso, .inl (cI, 8, .inl (fun _ => 0))), (msi, .inl (cI, 8, .inl (fun _ => 0))), (msh, .inl (cI, 8, .inl (fun _ => 0))), (mce, .inl (cJ, 1280, .inr (.inl (fun _ => 0)))), (mca, .inl (cJ, 160, .inr (.inl (fun _ => 0)))), (mwo, .inl (cI, 64, .inl fw_)), (mnu, .inl (cI, 10, .inl fn_)), (mte, .inl (cI, 3, .inl (fun _ => 0))), (mwa, .inl (cI, 130, .inl (fun _ => 0))), (mke, .inl (cI, 130, .inl (fun _ => 0))), (mma, .inl (cI, 3, .inl (fun _ => 0))), (mth, .inl (cI, 3, .inl (fun _ => 0))), (mtr, .inl (cI, 20, .inl (fun _ => 0)))]) ⟨hx, hb, hml, hown, hts⟩ (c_M_ask l D cI cJ cZ cP cS m0 mrf mki mpa mta mla msl mco mhe mso msi msh mce mca mwo mnu mte mwa mke mma mth mtr (a_3) (a_6)  H.size) (cwV 2 hts gq_73 rfl rfl rfl (by decide +kernel) ⟨Nat.le_of_ble_eq_true rfl, Nat.le_of_ble_eq_true rfl⟩) hK hN (hZ.kept hS) hP hD hS hA [0, 1, 7] [2, 3, 4, 5, 6, 8, 9, 10, 11, 12, 13, 14, 15, 16, 17, 18, 19, 20, 21] rfl rfl (by decide) (by decide) (by decide) (va_recv hK hP (ci := 8) (q0 := 0) rfl rfl) rfl hl.1 rfl (Nat.le_of_ble_eq_true rfl) dL_law_708 ⟨Nat.le_of_ble_eq_true rfl, Nat.le_of_ble_eq_true rfl⟩ (fun r_166 u_167 H locs hr_166 hP hD hS => ?_)
    replace hP : va_P D vwCl [(mki, .inl (cI, 8, .inl (fun _ => 0))), (mpa, .inl (cI, 8, .inl (fun _ => 0))), (mta, .inl (cI, 8, .inl (fun _ => 0))), (mla, .inl (cI, 40, .inl (fun _ => 0))), (msl, .inl (cI, 40, .inl (fun _ => 0))), (mhe, .inl (cI, 8, .inl (fun _ => 0))), (mso, .inl (cI, 8, .inl (fun _ => 0))), (msi, .inl (cI, 8, .inl (fun _ => 0))), (msh, .inl (cI, 8, .inl (fun _ => 0))), (mce, .inl (cJ, 1280, .inr (.inl (fun _ => 0)))), (mca, .inl (cJ, 160, .inr (.inl (fun _ => 0)))), (mwo, .inl (cI, 64, .inl fw_)), (mnu, .inl (cI, 10, .inl fn_)), (mte, .inl (cI, 3, .inl (fun _ => 0))), (mwa, .inl (cI, 130, .inl (fun _ => 0))), (mke, .inl (cI, 130, .inl (fun _ => 0))), (mma, .inl (cI, 3, .inl (fun _ => 0))), (mth, .inl (cI, 3, .inl (fun _ => 0))), (mtr, .inl (cI, 20, .inl (fun _ => 0)))] H := hP
    replace hD : va_D _ [(mki, .inl (cI, 8, .inl (fun _ => 0))), (mpa, .inl (cI, 8, .inl (fun _ => 0))), (mta, .inl (cI, 8, .inl (fun _ => 0))), (mla, .inl (cI, 40, .inl (fun _ => 0))), (msl, .inl (cI, 40, .inl (fun _ => 0))), (mhe, .inl (cI, 8, .inl (fun _ => 0))), (mso, .inl (cI, 8, .inl (fun _ => 0))), (msi, .inl (cI, 8, .inl (fun _ => 0))), (msh, .inl (cI, 8, .inl (fun _ => 0))), (mce, .inl (cJ, 1280, .inr (.inl (fun _ => 0)))), (mca, .inl (cJ, 160, .inr (.inl (fun _ => 0)))), (mwo, .inl (cI, 64, .inl fw_)), (mnu, .inl (cI, 10, .inl fn_)), (mte, .inl (cI, 3, .inl (fun _ => 0))), (mwa, .inl (cI, 130, .inl (fun _ => 0))), (mke, .inl (cI, 130, .inl (fun _ => 0))), (mma, .inl (cI, 3, .inl (fun _ => 0))), (mth, .inl (cI, 3, .inl (fun _ => 0))), (mtr, .inl (cI, 20, .inl (fun _ => 0)))] := hD
    rcases hr_166 with ⟨rfl, g_168⟩ | ⟨rfl, g_169, g_170⟩ | ⟨rfl, g_171, g_172, g_173, g_174⟩ | ⟨rfl, g_175, g_176, g_177, g_178, g_179, g_180, g_181, g_182⟩ | ⟨rfl, g_183, g_184, g_185, g_186, g_187, g_188, g_189, g_190⟩ | ⟨rfl, g_191, g_192, g_193, g_194, g_195, g_196, g_197, g_198, g_199⟩ | ⟨rfl, g_200, g_201, g_202, g_203, g_204, g_205, g_206, g_207, g_208, g_209⟩ | ⟨rfl, g_210, g_211, g_212, g_213, g_214, g_215, g_216, g_217, g_218, g_219⟩ | ⟨rfl, g_220, g_221, g_222, g_223, g_224, g_225, g_226, g_227, g_228, g_229⟩ | ⟨rfl, g_230, g_231, g_232, g_233, g_234, g_235, g_236, g_237, g_238, g_239⟩ | ⟨rfl, g_240, g_241, g_242, g_243, g_244, g_245, g_246, g_247, g_248⟩ | ⟨rfl, g_249, g_250, g_251, g_252, g_253, g_254, g_255, g_256, g_257⟩ | ⟨rfl, g_258, g_259, g_260, g_261, g_262, g_263, g_264, g_265, g_266⟩ | ⟨rfl, g_267, g_268, g_269, g_270, g_271, g_272, g_273, g_274, g_275⟩ | ⟨rfl, g_276, g_277, g_278, g_279, g_280, g_281, g_282⟩ | ⟨rfl, g_283, g_284, g_285, g_286, g_287, g_288, g_289⟩ | ⟨rfl, g_290, g_291, g_292, g_293, g_294, g_295⟩ | ⟨rfl, g_296, g_297, g_298, g_299, g_300, g_301⟩ | ⟨rfl, g_302, g_303, g_304, g_305⟩ | ⟨rfl, g_306, g_307, g_308, g_309, g_310⟩ | ⟨rfl, g_311, g_312, g_313, g_314, g_315⟩
    · refine lv_icmp_eq (tgt := 1371) hx hb dL_law_711 (by decide) (fun c_316 => ?_) (fun c_316 => ?_)
      · refine lv_iinc (v := 6) (lv' := [(3, .int 6), (2, .ref m0), (1, .ref x0), (0, .ref b)]) hx hb dL_law_1371 hl (k := 0) rfl (by decide) (by decide) rfl (fun ls hl => ?_)
        refine lv_goto (tgt := 18) hx hb dL_law_1374 (by decide) ?_
        refine lv_iload_n hx hb dL_law_18 rfl (lv_at hl 0 rfl) ?_
        refine lv_aload_n hx hb dL_law_19 rfl (lv_at hl 3 rfl) ?_
        refine va_slen hx hb hX hbl hbA hS dL_law_20 ?_
        refine lv_topi (fun y_317 ey_317 => ?_)
        obtain rfl : y_317 = 6 := ey_317.trans (by decide)
        refine lv_bipush (v := 6) hx hb dL_law_21 (by decide) ?_
        refine lv_isub hx hb dL_law_23 ?_
        refine lv_topi (fun y_318 ey_318 => ?_)
        obtain rfl : y_318 = 0 := ey_318.trans (by decide)
        refine lv_icmp_gt (tgt := 1377) hx hb dL_law_24 (by decide) (fun c_319 => ?_) (fun c_319 => ?_)
        · refine lv_iconst (v := 1) hx hb dL_law_1377 (by decide) ?_
          refine va_forget (fun q hq => hS.2.2 q hq) ?_
          refine W.widen (k := 600000) (n := 7302250) (Nat.le_of_ble_eq_true rfl) (Nat.le_of_ble_eq_true rfl) ?_
          exact lw_ret hx hb hr hlocks dL_law_1378
        · exact absurd c_319 (by decide)
      · exact absurd c_316 (by decide)
    · exfalso; omega
    · exfalso; omega
    · exfalso; omega
    · exfalso; omega
    · exfalso; omega
    · exfalso; omega
    · exfalso; omega
    · exfalso; omega
    · exfalso; omega
    · exfalso; omega
    · exfalso; omega
    · exfalso; omega
    · exfalso; omega
    · exfalso; omega
    · exfalso; omega
    · exfalso; omega
    · exfalso; omega
    · exfalso; omega
    · exfalso; omega
    · exfalso; omega
  · refine lv_aload_n hx hb dL_law_697 rfl (lv_at hl 1 rfl) ?_
    refine lv_aload_n hx hb dL_law_698 rfl (lv_at hl 3 rfl) ?_
    refine lv_iload_n hx hb dL_law_699 rfl (lv_at hl 0 rfl) ?_
    refine lv_iconst (v := 1) hx hb dL_law_700 (by decide) ?_
    refine lv_iadd hx hb dL_law_701 ?_
    refine lv_topi (fun y_320 ey_320 => ?_)
    obtain rfl : y_320 = 1 := ey_320.trans (by decide)
    refine va_sld hx hb hX hbl hbA hS (zf_in (by decide) (by decide)) dL_law_702 ?_
    refine lv_topi (fun y_321 ey_321 => ?_)
    obtain rfl : a_3 = y_321 := ea_3.trans ey_321.symm
    refine lv_aload_n hx hb dL_law_703 rfl (lv_at hl 3 rfl) ?_
    refine lv_iload_n hx hb dL_law_704 rfl (lv_at hl 0 rfl) ?_
    refine lv_iconst (v := 2) hx hb dL_law_705 (by decide) ?_
    refine lv_iadd hx hb dL_law_706 ?_
    refine lv_topi (fun y_322 ey_322 => ?_)
    obtain rfl : y_322 = 2 := ey_322.trans (by decide)
    refine va_sld hx hb hX hbl hbA hS (zf_in (by decide) (by decide)) dL_law_707 ?_
    refine lv_topi (fun y_323 ey_323 => ?_)
    obtain rfl : a_6 = y_323 := ea_6.trans ey_323.symm
    skip
    refine zw_V (As := [.int a_3, .int a_6]) (rest := [.int (-6)]) (wr := [(mki, .inl (cI, 8, .inl (fun _ => 0))), (mpa, .inl (cI, 8, .inl (fun _ => 0))), (mta, .inl (cI, 8, .inl (fun _ => 0))), (mla, .inl (cI, 40, .inl (fun _ => 0))), (msl, .inl (cI, 40, .inl (fun _ => 0))), (mhe, .inl (cI, 8, .inl (fun _ => 0))), (mso, .inl (cI, 8, .inl (fun _ => 0))), (msi, .inl (cI, 8, .inl (fun _ => 0))), (msh, .inl (cI, 8, .inl (fun _ => 0))), (mce, .inl (cJ, 1280, .inr (.inl (fun _ => 0)))), (mca, .inl (cJ, 160, .inr (.inl (fun _ => 0)))), (mwo, .inl (cI, 64, .inl fw_)), (mnu, .inl (cI, 10, .inl fn_)), (mte, .inl (cI, 3, .inl (fun _ => 0))), (mwa, .inl (cI, 130, .inl (fun _ => 0))), (mke, .inl (cI, 130, .inl (fun _ => 0))), (mma, .inl (cI, 3, .inl (fun _ => 0))), (mth, .inl (cI, 3, .inl (fun _ => 0))), (mtr, .inl (cI, 20, .inl (fun _ => 0)))]) ⟨hx, hb, hml, hown, hts⟩ (c_M_ask l D cI cJ cZ cP cS m0 mrf mki mpa mta mla msl mco mhe mso msi msh mce mca mwo mnu mte mwa mke mma mth mtr (a_3) (a_6)  H.size) (cwV 2 hts gq_73 rfl rfl rfl (by decide +kernel) ⟨Nat.le_of_ble_eq_true rfl, Nat.le_of_ble_eq_true rfl⟩) hK hN (hZ.kept hS) hP hD hS hA [0, 1, 7] [2, 3, 4, 5, 6, 8, 9, 10, 11, 12, 13, 14, 15, 16, 17, 18, 19, 20, 21] rfl rfl (by decide) (by decide) (by decide) (va_recv hK hP (ci := 8) (q0 := 0) rfl rfl) rfl hl.1 rfl (Nat.le_of_ble_eq_true rfl) dL_law_708 ⟨Nat.le_of_ble_eq_true rfl, Nat.le_of_ble_eq_true rfl⟩ (fun r_324 u_325 H locs hr_324 hP hD hS => ?_)
    replace hP : va_P D vwCl [(mki, .inl (cI, 8, .inl (fun _ => 0))), (mpa, .inl (cI, 8, .inl (fun _ => 0))), (mta, .inl (cI, 8, .inl (fun _ => 0))), (mla, .inl (cI, 40, .inl (fun _ => 0))), (msl, .inl (cI, 40, .inl (fun _ => 0))), (mhe, .inl (cI, 8, .inl (fun _ => 0))), (mso, .inl (cI, 8, .inl (fun _ => 0))), (msi, .inl (cI, 8, .inl (fun _ => 0))), (msh, .inl (cI, 8, .inl (fun _ => 0))), (mce, .inl (cJ, 1280, .inr (.inl (fun _ => 0)))), (mca, .inl (cJ, 160, .inr (.inl (fun _ => 0)))), (mwo, .inl (cI, 64, .inl fw_)), (mnu, .inl (cI, 10, .inl fn_)), (mte, .inl (cI, 3, .inl (fun _ => 0))), (mwa, .inl (cI, 130, .inl (fun _ => 0))), (mke, .inl (cI, 130, .inl (fun _ => 0))), (mma, .inl (cI, 3, .inl (fun _ => 0))), (mth, .inl (cI, 3, .inl (fun _ => 0))), (mtr, .inl (cI, 20, .inl (fun _ => 0)))] H := hP
    replace hD : va_D _ [(mki, .inl (cI, 8, .inl (fun _ => 0))), (mpa, .inl (cI, 8, .inl (fun _ => 0))), (mta, .inl (cI, 8, .inl (fun _ => 0))), (mla, .inl (cI, 40, .inl (fun _ => 0))), (msl, .inl (cI, 40, .inl (fun _ => 0))), (mhe, .inl (cI, 8, .inl (fun _ => 0))), (mso, .inl (cI, 8, .inl (fun _ => 0))), (msi, .inl (cI, 8, .inl (fun _ => 0))), (msh, .inl (cI, 8, .inl (fun _ => 0))), (mce, .inl (cJ, 1280, .inr (.inl (fun _ => 0)))), (mca, .inl (cJ, 160, .inr (.inl (fun _ => 0)))), (mwo, .inl (cI, 64, .inl fw_)), (mnu, .inl (cI, 10, .inl fn_)), (mte, .inl (cI, 3, .inl (fun _ => 0))), (mwa, .inl (cI, 130, .inl (fun _ => 0))), (mke, .inl (cI, 130, .inl (fun _ => 0))), (mma, .inl (cI, 3, .inl (fun _ => 0))), (mth, .inl (cI, 3, .inl (fun _ => 0))), (mtr, .inl (cI, 20, .inl (fun _ => 0)))] := hD
    rcases hr_324 with ⟨rfl, g_326⟩ | ⟨rfl, g_327, g_328⟩ | ⟨rfl, g_329, g_330, g_331, g_332⟩ | ⟨rfl, g_333, g_334, g_335, g_336, g_337, g_338, g_339, g_340⟩ | ⟨rfl, g_341, g_342, g_343, g_344, g_345, g_346, g_347, g_348⟩ | ⟨rfl, g_349, g_350, g_351, g_352, g_353, g_354, g_355, g_356, g_357⟩ | ⟨rfl, g_358, g_359, g_360, g_361, g_362, g_363, g_364, g_365, g_366, g_367⟩ | ⟨rfl, g_368, g_369, g_370, g_371, g_372, g_373, g_374, g_375, g_376, g_377⟩ | ⟨rfl, g_378, g_379, g_380, g_381, g_382, g_383, g_384, g_385, g_386, g_387⟩ | ⟨rfl, g_388, g_389, g_390, g_391, g_392, g_393, g_394, g_395, g_396, g_397⟩ | ⟨rfl, g_398, g_399, g_400, g_401, g_402, g_403, g_404, g_405, g_406⟩ | ⟨rfl, g_407, g_408, g_409, g_410, g_411, g_412, g_413, g_414, g_415⟩ | ⟨rfl, g_416, g_417, g_418, g_419, g_420, g_421, g_422, g_423, g_424⟩ | ⟨rfl, g_425, g_426, g_427, g_428, g_429, g_430, g_431, g_432, g_433⟩ | ⟨rfl, g_434, g_435, g_436, g_437, g_438, g_439, g_440⟩ | ⟨rfl, g_441, g_442, g_443, g_444, g_445, g_446, g_447⟩ | ⟨rfl, g_448, g_449, g_450, g_451, g_452, g_453⟩ | ⟨rfl, g_454, g_455, g_456, g_457, g_458, g_459⟩ | ⟨rfl, g_460, g_461, g_462, g_463⟩ | ⟨rfl, g_464, g_465, g_466, g_467, g_468⟩ | ⟨rfl, g_469, g_470, g_471, g_472, g_473⟩
    · exfalso; omega
    · refine lv_icmp_eq (tgt := 1371) hx hb dL_law_711 (by decide) (fun c_474 => ?_) (fun c_474 => ?_)
      · refine lv_iinc (v := 6) (lv' := [(3, .int 6), (2, .ref m0), (1, .ref x0), (0, .ref b)]) hx hb dL_law_1371 hl (k := 0) rfl (by decide) (by decide) rfl (fun ls hl => ?_)
        refine lv_goto (tgt := 18) hx hb dL_law_1374 (by decide) ?_
        refine lv_iload_n hx hb dL_law_18 rfl (lv_at hl 0 rfl) ?_
        refine lv_aload_n hx hb dL_law_19 rfl (lv_at hl 3 rfl) ?_
        refine va_slen hx hb hX hbl hbA hS dL_law_20 ?_
        refine lv_topi (fun y_475 ey_475 => ?_)
        obtain rfl : y_475 = 6 := ey_475.trans (by decide)
        refine lv_bipush (v := 6) hx hb dL_law_21 (by decide) ?_
        refine lv_isub hx hb dL_law_23 ?_
        refine lv_topi (fun y_476 ey_476 => ?_)
        obtain rfl : y_476 = 0 := ey_476.trans (by decide)
        refine lv_icmp_gt (tgt := 1377) hx hb dL_law_24 (by decide) (fun c_477 => ?_) (fun c_477 => ?_)
        · refine lv_iconst (v := 1) hx hb dL_law_1377 (by decide) ?_
          refine va_forget (fun q hq => hS.2.2 q hq) ?_
          refine W.widen (k := 600000) (n := 7302250) (Nat.le_of_ble_eq_true rfl) (Nat.le_of_ble_eq_true rfl) ?_
          exact lw_ret hx hb hr hlocks dL_law_1378
        · exact absurd c_477 (by decide)
      · exact absurd c_474 (by decide)
    · exfalso; omega
    · exfalso; omega
    · exfalso; omega
    · exfalso; omega
    · exfalso; omega
    · exfalso; omega
    · exfalso; omega
    · exfalso; omega
    · exfalso; omega
    · exfalso; omega
    · exfalso; omega
    · exfalso; omega
    · exfalso; omega
    · exfalso; omega
    · exfalso; omega
    · exfalso; omega
    · exfalso; omega
    · exfalso; omega
    · exfalso; omega
  · refine lv_aload_n hx hb dL_law_697 rfl (lv_at hl 1 rfl) ?_
    refine lv_aload_n hx hb dL_law_698 rfl (lv_at hl 3 rfl) ?_
    refine lv_iload_n hx hb dL_law_699 rfl (lv_at hl 0 rfl) ?_
    refine lv_iconst (v := 1) hx hb dL_law_700 (by decide) ?_
    refine lv_iadd hx hb dL_law_701 ?_
    refine lv_topi (fun y_478 ey_478 => ?_)
    obtain rfl : y_478 = 1 := ey_478.trans (by decide)
    refine va_sld hx hb hX hbl hbA hS (zf_in (by decide) (by decide)) dL_law_702 ?_
    refine lv_topi (fun y_479 ey_479 => ?_)
    obtain rfl : a_3 = y_479 := ea_3.trans ey_479.symm
    refine lv_aload_n hx hb dL_law_703 rfl (lv_at hl 3 rfl) ?_
    refine lv_iload_n hx hb dL_law_704 rfl (lv_at hl 0 rfl) ?_
    refine lv_iconst (v := 2) hx hb dL_law_705 (by decide) ?_
    refine lv_iadd hx hb dL_law_706 ?_
    refine lv_topi (fun y_480 ey_480 => ?_)
    obtain rfl : y_480 = 2 := ey_480.trans (by decide)
    refine va_sld hx hb hX hbl hbA hS (zf_in (by decide) (by decide)) dL_law_707 ?_
    refine lv_topi (fun y_481 ey_481 => ?_)
    obtain rfl : a_6 = y_481 := ea_6.trans ey_481.symm
    skip
    refine zw_V (As := [.int a_3, .int a_6]) (rest := [.int (-6)]) (wr := [(mki, .inl (cI, 8, .inl (fun _ => 0))), (mpa, .inl (cI, 8, .inl (fun _ => 0))), (mta, .inl (cI, 8, .inl (fun _ => 0))), (mla, .inl (cI, 40, .inl (fun _ => 0))), (msl, .inl (cI, 40, .inl (fun _ => 0))), (mhe, .inl (cI, 8, .inl (fun _ => 0))), (mso, .inl (cI, 8, .inl (fun _ => 0))), (msi, .inl (cI, 8, .inl (fun _ => 0))), (msh, .inl (cI, 8, .inl (fun _ => 0))), (mce, .inl (cJ, 1280, .inr (.inl (fun _ => 0)))), (mca, .inl (cJ, 160, .inr (.inl (fun _ => 0)))), (mwo, .inl (cI, 64, .inl fw_)), (mnu, .inl (cI, 10, .inl fn_)), (mte, .inl (cI, 3, .inl (fun _ => 0))), (mwa, .inl (cI, 130, .inl (fun _ => 0))), (mke, .inl (cI, 130, .inl (fun _ => 0))), (mma, .inl (cI, 3, .inl (fun _ => 0))), (mth, .inl (cI, 3, .inl (fun _ => 0))), (mtr, .inl (cI, 20, .inl (fun _ => 0)))]) ⟨hx, hb, hml, hown, hts⟩ (c_M_ask l D cI cJ cZ cP cS m0 mrf mki mpa mta mla msl mco mhe mso msi msh mce mca mwo mnu mte mwa mke mma mth mtr (a_3) (a_6)  H.size) (cwV 2 hts gq_73 rfl rfl rfl (by decide +kernel) ⟨Nat.le_of_ble_eq_true rfl, Nat.le_of_ble_eq_true rfl⟩) hK hN (hZ.kept hS) hP hD hS hA [0, 1, 7] [2, 3, 4, 5, 6, 8, 9, 10, 11, 12, 13, 14, 15, 16, 17, 18, 19, 20, 21] rfl rfl (by decide) (by decide) (by decide) (va_recv hK hP (ci := 8) (q0 := 0) rfl rfl) rfl hl.1 rfl (Nat.le_of_ble_eq_true rfl) dL_law_708 ⟨Nat.le_of_ble_eq_true rfl, Nat.le_of_ble_eq_true rfl⟩ (fun r_482 u_483 H locs hr_482 hP hD hS => ?_)
    replace hP : va_P D vwCl [(mki, .inl (cI, 8, .inl (fun _ => 0))), (mpa, .inl (cI, 8, .inl (fun _ => 0))), (mta, .inl (cI, 8, .inl (fun _ => 0))), (mla, .inl (cI, 40, .inl (fun _ => 0))), (msl, .inl (cI, 40, .inl (fun _ => 0))), (mhe, .inl (cI, 8, .inl (fun _ => 0))), (mso, .inl (cI, 8, .inl (fun _ => 0))), (msi, .inl (cI, 8, .inl (fun _ => 0))), (msh, .inl (cI, 8, .inl (fun _ => 0))), (mce, .inl (cJ, 1280, .inr (.inl (fun _ => 0)))), (mca, .inl (cJ, 160, .inr (.inl (fun _ => 0)))), (mwo, .inl (cI, 64, .inl fw_)), (mnu, .inl (cI, 10, .inl fn_)), (mte, .inl (cI, 3, .inl (fun _ => 0))), (mwa, .inl (cI, 130, .inl (fun _ => 0))), (mke, .inl (cI, 130, .inl (fun _ => 0))), (mma, .inl (cI, 3, .inl (fun _ => 0))), (mth, .inl (cI, 3, .inl (fun _ => 0))), (mtr, .inl (cI, 20, .inl (fun _ => 0)))] H := hP
    replace hD : va_D _ [(mki, .inl (cI, 8, .inl (fun _ => 0))), (mpa, .inl (cI, 8, .inl (fun _ => 0))), (mta, .inl (cI, 8, .inl (fun _ => 0))), (mla, .inl (cI, 40, .inl (fun _ => 0))), (msl, .inl (cI, 40, .inl (fun _ => 0))), (mhe, .inl (cI, 8, .inl (fun _ => 0))), (mso, .inl (cI, 8, .inl (fun _ => 0))), (msi, .inl (cI, 8, .inl (fun _ => 0))), (msh, .inl (cI, 8, .inl (fun _ => 0))), (mce, .inl (cJ, 1280, .inr (.inl (fun _ => 0)))), (mca, .inl (cJ, 160, .inr (.inl (fun _ => 0)))), (mwo, .inl (cI, 64, .inl fw_)), (mnu, .inl (cI, 10, .inl fn_)), (mte, .inl (cI, 3, .inl (fun _ => 0))), (mwa, .inl (cI, 130, .inl (fun _ => 0))), (mke, .inl (cI, 130, .inl (fun _ => 0))), (mma, .inl (cI, 3, .inl (fun _ => 0))), (mth, .inl (cI, 3, .inl (fun _ => 0))), (mtr, .inl (cI, 20, .inl (fun _ => 0)))] := hD
    rcases hr_482 with ⟨rfl, g_484⟩ | ⟨rfl, g_485, g_486⟩ | ⟨rfl, g_487, g_488, g_489, g_490⟩ | ⟨rfl, g_491, g_492, g_493, g_494, g_495, g_496, g_497, g_498⟩ | ⟨rfl, g_499, g_500, g_501, g_502, g_503, g_504, g_505, g_506⟩ | ⟨rfl, g_507, g_508, g_509, g_510, g_511, g_512, g_513, g_514, g_515⟩ | ⟨rfl, g_516, g_517, g_518, g_519, g_520, g_521, g_522, g_523, g_524, g_525⟩ | ⟨rfl, g_526, g_527, g_528, g_529, g_530, g_531, g_532, g_533, g_534, g_535⟩ | ⟨rfl, g_536, g_537, g_538, g_539, g_540, g_541, g_542, g_543, g_544, g_545⟩ | ⟨rfl, g_546, g_547, g_548, g_549, g_550, g_551, g_552, g_553, g_554, g_555⟩ | ⟨rfl, g_556, g_557, g_558, g_559, g_560, g_561, g_562, g_563, g_564⟩ | ⟨rfl, g_565, g_566, g_567, g_568, g_569, g_570, g_571, g_572, g_573⟩ | ⟨rfl, g_574, g_575, g_576, g_577, g_578, g_579, g_580, g_581, g_582⟩ | ⟨rfl, g_583, g_584, g_585, g_586, g_587, g_588, g_589, g_590, g_591⟩ | ⟨rfl, g_592, g_593, g_594, g_595, g_596, g_597, g_598⟩ | ⟨rfl, g_599, g_600, g_601, g_602, g_603, g_604, g_605⟩ | ⟨rfl, g_606, g_607, g_608, g_609, g_610, g_611⟩ | ⟨rfl, g_612, g_613, g_614, g_615, g_616, g_617⟩ | ⟨rfl, g_618, g_619, g_620, g_621⟩ | ⟨rfl, g_622, g_623, g_624, g_625, g_626⟩ | ⟨rfl, g_627, g_628, g_629, g_630, g_631⟩
    · exfalso; omega
    · exfalso; omega
    · refine lv_icmp_eq (tgt := 1371) hx hb dL_law_711 (by decide) (fun c_632 => ?_) (fun c_632 => ?_)
      · refine lv_iinc (v := 6) (lv' := [(3, .int 6), (2, .ref m0), (1, .ref x0), (0, .ref b)]) hx hb dL_law_1371 hl (k := 0) rfl (by decide) (by decide) rfl (fun ls hl => ?_)
        refine lv_goto (tgt := 18) hx hb dL_law_1374 (by decide) ?_
        refine lv_iload_n hx hb dL_law_18 rfl (lv_at hl 0 rfl) ?_
        refine lv_aload_n hx hb dL_law_19 rfl (lv_at hl 3 rfl) ?_
        refine va_slen hx hb hX hbl hbA hS dL_law_20 ?_
        refine lv_topi (fun y_633 ey_633 => ?_)
        obtain rfl : y_633 = 6 := ey_633.trans (by decide)
        refine lv_bipush (v := 6) hx hb dL_law_21 (by decide) ?_
        refine lv_isub hx hb dL_law_23 ?_
        refine lv_topi (fun y_634 ey_634 => ?_)
        obtain rfl : y_634 = 0 := ey_634.trans (by decide)
        refine lv_icmp_gt (tgt := 1377) hx hb dL_law_24 (by decide) (fun c_635 => ?_) (fun c_635 => ?_)
        · refine lv_iconst (v := 1) hx hb dL_law_1377 (by decide) ?_
          refine va_forget (fun q hq => hS.2.2 q hq) ?_
          refine W.widen (k := 600000) (n := 7302250) (Nat.le_of_ble_eq_true rfl) (Nat.le_of_ble_eq_true rfl) ?_
          exact lw_ret hx hb hr hlocks dL_law_1378
        · exact absurd c_635 (by decide)
      · exact absurd c_632 (by decide)
    · exfalso; omega
    · exfalso; omega
    · exfalso; omega
    · exfalso; omega
    · exfalso; omega
    · exfalso; omega
    · exfalso; omega
    · exfalso; omega
    · exfalso; omega
    · exfalso; omega
    · exfalso; omega
    · exfalso; omega
    · exfalso; omega
    · exfalso; omega
    · exfalso; omega
    · exfalso; omega
    · exfalso; omega
    · exfalso; omega
  · refine lv_aload_n hx hb dL_law_697 rfl (lv_at hl 1 rfl) ?_
    refine lv_aload_n hx hb dL_law_698 rfl (lv_at hl 3 rfl) ?_
    refine lv_iload_n hx hb dL_law_699 rfl (lv_at hl 0 rfl) ?_
    refine lv_iconst (v := 1) hx hb dL_law_700 (by decide) ?_
    refine lv_iadd hx hb dL_law_701 ?_
    refine lv_topi (fun y_636 ey_636 => ?_)
    obtain rfl : y_636 = 1 := ey_636.trans (by decide)
    refine va_sld hx hb hX hbl hbA hS (zf_in (by decide) (by decide)) dL_law_702 ?_
    refine lv_topi (fun y_637 ey_637 => ?_)
    obtain rfl : a_3 = y_637 := ea_3.trans ey_637.symm
    refine lv_aload_n hx hb dL_law_703 rfl (lv_at hl 3 rfl) ?_
    refine lv_iload_n hx hb dL_law_704 rfl (lv_at hl 0 rfl) ?_
    refine lv_iconst (v := 2) hx hb dL_law_705 (by decide) ?_
    refine lv_iadd hx hb dL_law_706 ?_
    refine lv_topi (fun y_638 ey_638 => ?_)
    obtain rfl : y_638 = 2 := ey_638.trans (by decide)
    refine va_sld hx hb hX hbl hbA hS (zf_in (by decide) (by decide)) dL_law_707 ?_
    refine lv_topi (fun y_639 ey_639 => ?_)
    obtain rfl : a_6 = y_639 := ea_6.trans ey_639.symm
    skip
    refine zw_V (As := [.int a_3, .int a_6]) (rest := [.int (-6)]) (wr := [(mki, .inl (cI, 8, .inl (fun _ => 0))), (mpa, .inl (cI, 8, .inl (fun _ => 0))), (mta, .inl (cI, 8, .inl (fun _ => 0))), (mla, .inl (cI, 40, .inl (fun _ => 0))), (msl, .inl (cI, 40, .inl (fun _ => 0))), (mhe, .inl (cI, 8, .inl (fun _ => 0))), (mso, .inl (cI, 8, .inl (fun _ => 0))), (msi, .inl (cI, 8, .inl (fun _ => 0))), (msh, .inl (cI, 8, .inl (fun _ => 0))), (mce, .inl (cJ, 1280, .inr (.inl (fun _ => 0)))), (mca, .inl (cJ, 160, .inr (.inl (fun _ => 0)))), (mwo, .inl (cI, 64, .inl fw_)), (mnu, .inl (cI, 10, .inl fn_)), (mte, .inl (cI, 3, .inl (fun _ => 0))), (mwa, .inl (cI, 130, .inl (fun _ => 0))), (mke, .inl (cI, 130, .inl (fun _ => 0))), (mma, .inl (cI, 3, .inl (fun _ => 0))), (mth, .inl (cI, 3, .inl (fun _ => 0))), (mtr, .inl (cI, 20, .inl (fun _ => 0)))]) ⟨hx, hb, hml, hown, hts⟩ (c_M_ask l D cI cJ cZ cP cS m0 mrf mki mpa mta mla msl mco mhe mso msi msh mce mca mwo mnu mte mwa mke mma mth mtr (a_3) (a_6)  H.size) (cwV 2 hts gq_73 rfl rfl rfl (by decide +kernel) ⟨Nat.le_of_ble_eq_true rfl, Nat.le_of_ble_eq_true rfl⟩) hK hN (hZ.kept hS) hP hD hS hA [0, 1, 7] [2, 3, 4, 5, 6, 8, 9, 10, 11, 12, 13, 14, 15, 16, 17, 18, 19, 20, 21] rfl rfl (by decide) (by decide) (by decide) (va_recv hK hP (ci := 8) (q0 := 0) rfl rfl) rfl hl.1 rfl (Nat.le_of_ble_eq_true rfl) dL_law_708 ⟨Nat.le_of_ble_eq_true rfl, Nat.le_of_ble_eq_true rfl⟩ (fun r_640 u_641 H locs hr_640 hP hD hS => ?_)
    replace hP : va_P D vwCl [(mki, .inl (cI, 8, .inl (fun _ => 0))), (mpa, .inl (cI, 8, .inl (fun _ => 0))), (mta, .inl (cI, 8, .inl (fun _ => 0))), (mla, .inl (cI, 40, .inl (fun _ => 0))), (msl, .inl (cI, 40, .inl (fun _ => 0))), (mhe, .inl (cI, 8, .inl (fun _ => 0))), (mso, .inl (cI, 8, .inl (fun _ => 0))), (msi, .inl (cI, 8, .inl (fun _ => 0))), (msh, .inl (cI, 8, .inl (fun _ => 0))), (mce, .inl (cJ, 1280, .inr (.inl (fun _ => 0)))), (mca, .inl (cJ, 160, .inr (.inl (fun _ => 0)))), (mwo, .inl (cI, 64, .inl fw_)), (mnu, .inl (cI, 10, .inl fn_)), (mte, .inl (cI, 3, .inl (fun _ => 0))), (mwa, .inl (cI, 130, .inl (fun _ => 0))), (mke, .inl (cI, 130, .inl (fun _ => 0))), (mma, .inl (cI, 3, .inl (fun _ => 0))), (mth, .inl (cI, 3, .inl (fun _ => 0))), (mtr, .inl (cI, 20, .inl (fun _ => 0)))] H := hP
    replace hD : va_D _ [(mki, .inl (cI, 8, .inl (fun _ => 0))), (mpa, .inl (cI, 8, .inl (fun _ => 0))), (mta, .inl (cI, 8, .inl (fun _ => 0))), (mla, .inl (cI, 40, .inl (fun _ => 0))), (msl, .inl (cI, 40, .inl (fun _ => 0))), (mhe, .inl (cI, 8, .inl (fun _ => 0))), (mso, .inl (cI, 8, .inl (fun _ => 0))), (msi, .inl (cI, 8, .inl (fun _ => 0))), (msh, .inl (cI, 8, .inl (fun _ => 0))), (mce, .inl (cJ, 1280, .inr (.inl (fun _ => 0)))), (mca, .inl (cJ, 160, .inr (.inl (fun _ => 0)))), (mwo, .inl (cI, 64, .inl fw_)), (mnu, .inl (cI, 10, .inl fn_)), (mte, .inl (cI, 3, .inl (fun _ => 0))), (mwa, .inl (cI, 130, .inl (fun _ => 0))), (mke, .inl (cI, 130, .inl (fun _ => 0))), (mma, .inl (cI, 3, .inl (fun _ => 0))), (mth, .inl (cI, 3, .inl (fun _ => 0))), (mtr, .inl (cI, 20, .inl (fun _ => 0)))] := hD
    rcases hr_640 with ⟨rfl, g_642⟩ | ⟨rfl, g_643, g_644⟩ | ⟨rfl, g_645, g_646, g_647, g_648⟩ | ⟨rfl, g_649, g_650, g_651, g_652, g_653, g_654, g_655, g_656⟩ | ⟨rfl, g_657, g_658, g_659, g_660, g_661, g_662, g_663, g_664⟩ | ⟨rfl, g_665, g_666, g_667, g_668, g_669, g_670, g_671, g_672, g_673⟩ | ⟨rfl, g_674, g_675, g_676, g_677, g_678, g_679, g_680, g_681, g_682, g_683⟩ | ⟨rfl, g_684, g_685, g_686, g_687, g_688, g_689, g_690, g_691, g_692, g_693⟩ | ⟨rfl, g_694, g_695, g_696, g_697, g_698, g_699, g_700, g_701, g_702, g_703⟩ | ⟨rfl, g_704, g_705, g_706, g_707, g_708, g_709, g_710, g_711, g_712, g_713⟩ | ⟨rfl, g_714, g_715, g_716, g_717, g_718, g_719, g_720, g_721, g_722⟩ | ⟨rfl, g_723, g_724, g_725, g_726, g_727, g_728, g_729, g_730, g_731⟩ | ⟨rfl, g_732, g_733, g_734, g_735, g_736, g_737, g_738, g_739, g_740⟩ | ⟨rfl, g_741, g_742, g_743, g_744, g_745, g_746, g_747, g_748, g_749⟩ | ⟨rfl, g_750, g_751, g_752, g_753, g_754, g_755, g_756⟩ | ⟨rfl, g_757, g_758, g_759, g_760, g_761, g_762, g_763⟩ | ⟨rfl, g_764, g_765, g_766, g_767, g_768, g_769⟩ | ⟨rfl, g_770, g_771, g_772, g_773, g_774, g_775⟩ | ⟨rfl, g_776, g_777, g_778, g_779⟩ | ⟨rfl, g_780, g_781, g_782, g_783, g_784⟩ | ⟨rfl, g_785, g_786, g_787, g_788, g_789⟩
    · exfalso; omega
    · exfalso; omega
    · exfalso; omega
    · exfalso; omega
    · exfalso; omega
    · exfalso; omega
    · exfalso; omega
    · exfalso; omega
    · exfalso; omega
    · exfalso; omega
    · exfalso; omega
    · exfalso; omega
    · exfalso; omega
    · exfalso; omega
    · exfalso; omega
    · exfalso; omega
    · refine lv_icmp_eq (tgt := 1371) hx hb dL_law_711 (by decide) (fun c_790 => ?_) (fun c_790 => ?_)
      · refine lv_iinc (v := 6) (lv' := [(3, .int 6), (2, .ref m0), (1, .ref x0), (0, .ref b)]) hx hb dL_law_1371 hl (k := 0) rfl (by decide) (by decide) rfl (fun ls hl => ?_)
        refine lv_goto (tgt := 18) hx hb dL_law_1374 (by decide) ?_
        refine lv_iload_n hx hb dL_law_18 rfl (lv_at hl 0 rfl) ?_
        refine lv_aload_n hx hb dL_law_19 rfl (lv_at hl 3 rfl) ?_
        refine va_slen hx hb hX hbl hbA hS dL_law_20 ?_
        refine lv_topi (fun y_791 ey_791 => ?_)
        obtain rfl : y_791 = 6 := ey_791.trans (by decide)
        refine lv_bipush (v := 6) hx hb dL_law_21 (by decide) ?_
        refine lv_isub hx hb dL_law_23 ?_
        refine lv_topi (fun y_792 ey_792 => ?_)
        obtain rfl : y_792 = 0 := ey_792.trans (by decide)
        refine lv_icmp_gt (tgt := 1377) hx hb dL_law_24 (by decide) (fun c_793 => ?_) (fun c_793 => ?_)
        · refine lv_iconst (v := 1) hx hb dL_law_1377 (by decide) ?_
          refine va_forget (fun q hq => hS.2.2 q hq) ?_
          refine W.widen (k := 600000) (n := 7302250) (Nat.le_of_ble_eq_true rfl) (Nat.le_of_ble_eq_true rfl) ?_
          exact lw_ret hx hb hr hlocks dL_law_1378
        · exact absurd c_793 (by decide)
      · exact absurd c_790 (by decide)
    · exfalso; omega
    · exfalso; omega
    · exfalso; omega
    · exfalso; omega
  · refine lv_aload_n hx hb dL_law_697 rfl (lv_at hl 1 rfl) ?_
    refine lv_aload_n hx hb dL_law_698 rfl (lv_at hl 3 rfl) ?_
    refine lv_iload_n hx hb dL_law_699 rfl (lv_at hl 0 rfl) ?_
    refine lv_iconst (v := 1) hx hb dL_law_700 (by decide) ?_
    refine lv_iadd hx hb dL_law_701 ?_
    refine lv_topi (fun y_794 ey_794 => ?_)
    obtain rfl : y_794 = 1 := ey_794.trans (by decide)
    refine va_sld hx hb hX hbl hbA hS (zf_in (by decide) (by decide)) dL_law_702 ?_
    refine lv_topi (fun y_795 ey_795 => ?_)
    obtain rfl : a_3 = y_795 := ea_3.trans ey_795.symm
    refine lv_aload_n hx hb dL_law_703 rfl (lv_at hl 3 rfl) ?_
    refine lv_iload_n hx hb dL_law_704 rfl (lv_at hl 0 rfl) ?_
    refine lv_iconst (v := 2) hx hb dL_law_705 (by decide) ?_
    refine lv_iadd hx hb dL_law_706 ?_
    refine lv_topi (fun y_796 ey_796 => ?_)
    obtain rfl : y_796 = 2 := ey_796.trans (by decide)
    refine va_sld hx hb hX hbl hbA hS (zf_in (by decide) (by decide)) dL_law_707 ?_
    refine lv_topi (fun y_797 ey_797 => ?_)
    obtain rfl : a_6 = y_797 := ea_6.trans ey_797.symm
    skip
    refine zw_V (As := [.int a_3, .int a_6]) (rest := [.int 0]) (wr := [(mki, .inl (cI, 8, .inl (fun _ => 0))), (mpa, .inl (cI, 8, .inl (fun _ => 0))), (mta, .inl (cI, 8, .inl (fun _ => 0))), (mla, .inl (cI, 40, .inl (fun _ => 0))), (msl, .inl (cI, 40, .inl (fun _ => 0))), (mhe, .inl (cI, 8, .inl (fun _ => 0))), (mso, .inl (cI, 8, .inl (fun _ => 0))), (msi, .inl (cI, 8, .inl (fun _ => 0))), (msh, .inl (cI, 8, .inl (fun _ => 0))), (mce, .inl (cJ, 1280, .inr (.inl (fun _ => 0)))), (mca, .inl (cJ, 160, .inr (.inl (fun _ => 0)))), (mwo, .inl (cI, 64, .inl fw_)), (mnu, .inl (cI, 10, .inl fn_)), (mte, .inl (cI, 3, .inl (fun _ => 0))), (mwa, .inl (cI, 130, .inl (fun _ => 0))), (mke, .inl (cI, 130, .inl (fun _ => 0))), (mma, .inl (cI, 3, .inl (fun _ => 0))), (mth, .inl (cI, 3, .inl (fun _ => 0))), (mtr, .inl (cI, 20, .inl (fun _ => 0)))]) ⟨hx, hb, hml, hown, hts⟩ (c_M_ask l D cI cJ cZ cP cS m0 mrf mki mpa mta mla msl mco mhe mso msi msh mce mca mwo mnu mte mwa mke mma mth mtr (a_3) (a_6)  H.size) (cwV 2 hts gq_73 rfl rfl rfl (by decide +kernel) ⟨Nat.le_of_ble_eq_true rfl, Nat.le_of_ble_eq_true rfl⟩) hK hN (hZ.kept hS) hP hD hS hA [0, 1, 7] [2, 3, 4, 5, 6, 8, 9, 10, 11, 12, 13, 14, 15, 16, 17, 18, 19, 20, 21] rfl rfl (by decide) (by decide) (by decide) (va_recv hK hP (ci := 8) (q0 := 0) rfl rfl) rfl hl.1 rfl (Nat.le_of_ble_eq_true rfl) dL_law_708 ⟨Nat.le_of_ble_eq_true rfl, Nat.le_of_ble_eq_true rfl⟩ (fun r_798 u_799 H locs hr_798 hP hD hS => ?_)
    replace hP : va_P D vwCl [(mki, .inl (cI, 8, .inl (fun _ => 0))), (mpa, .inl (cI, 8, .inl (fun _ => 0))), (mta, .inl (cI, 8, .inl (fun _ => 0))), (mla, .inl (cI, 40, .inl (fun _ => 0))), (msl, .inl (cI, 40, .inl (fun _ => 0))), (mhe, .inl (cI, 8, .inl (fun _ => 0))), (mso, .inl (cI, 8, .inl (fun _ => 0))), (msi, .inl (cI, 8, .inl (fun _ => 0))), (msh, .inl (cI, 8, .inl (fun _ => 0))), (mce, .inl (cJ, 1280, .inr (.inl (fun _ => 0)))), (mca, .inl (cJ, 160, .inr (.inl (fun _ => 0)))), (mwo, .inl (cI, 64, .inl fw_)), (mnu, .inl (cI, 10, .inl fn_)), (mte, .inl (cI, 3, .inl (fun _ => 0))), (mwa, .inl (cI, 130, .inl (fun _ => 0))), (mke, .inl (cI, 130, .inl (fun _ => 0))), (mma, .inl (cI, 3, .inl (fun _ => 0))), (mth, .inl (cI, 3, .inl (fun _ => 0))), (mtr, .inl (cI, 20, .inl (fun _ => 0)))] H := hP
    replace hD : va_D _ [(mki, .inl (cI, 8, .inl (fun _ => 0))), (mpa, .inl (cI, 8, .inl (fun _ => 0))), (mta, .inl (cI, 8, .inl (fun _ => 0))), (mla, .inl (cI, 40, .inl (fun _ => 0))), (msl, .inl (cI, 40, .inl (fun _ => 0))), (mhe, .inl (cI, 8, .inl (fun _ => 0))), (mso, .inl (cI, 8, .inl (fun _ => 0))), (msi, .inl (cI, 8, .inl (fun _ => 0))), (msh, .inl (cI, 8, .inl (fun _ => 0))), (mce, .inl (cJ, 1280, .inr (.inl (fun _ => 0)))), (mca, .inl (cJ, 160, .inr (.inl (fun _ => 0)))), (mwo, .inl (cI, 64, .inl fw_)), (mnu, .inl (cI, 10, .inl fn_)), (mte, .inl (cI, 3, .inl (fun _ => 0))), (mwa, .inl (cI, 130, .inl (fun _ => 0))), (mke, .inl (cI, 130, .inl (fun _ => 0))), (mma, .inl (cI, 3, .inl (fun _ => 0))), (mth, .inl (cI, 3, .inl (fun _ => 0))), (mtr, .inl (cI, 20, .inl (fun _ => 0)))] := hD
    rcases hr_798 with ⟨rfl, g_800⟩ | ⟨rfl, g_801, g_802⟩ | ⟨rfl, g_803, g_804, g_805, g_806⟩ | ⟨rfl, g_807, g_808, g_809, g_810, g_811, g_812, g_813, g_814⟩ | ⟨rfl, g_815, g_816, g_817, g_818, g_819, g_820, g_821, g_822⟩ | ⟨rfl, g_823, g_824, g_825, g_826, g_827, g_828, g_829, g_830, g_831⟩ | ⟨rfl, g_832, g_833, g_834, g_835, g_836, g_837, g_838, g_839, g_840, g_841⟩ | ⟨rfl, g_842, g_843, g_844, g_845, g_846, g_847, g_848, g_849, g_850, g_851⟩ | ⟨rfl, g_852, g_853, g_854, g_855, g_856, g_857, g_858, g_859, g_860, g_861⟩ | ⟨rfl, g_862, g_863, g_864, g_865, g_866, g_867, g_868, g_869, g_870, g_871⟩ | ⟨rfl, g_872, g_873, g_874, g_875, g_876, g_877, g_878, g_879, g_880⟩ | ⟨rfl, g_881, g_882, g_883, g_884, g_885, g_886, g_887, g_888, g_889⟩ | ⟨rfl, g_890, g_891, g_892, g_893, g_894, g_895, g_896, g_897, g_898⟩ | ⟨rfl, g_899, g_900, g_901, g_902, g_903, g_904, g_905, g_906, g_907⟩ | ⟨rfl, g_908, g_909, g_910, g_911, g_912, g_913, g_914⟩ | ⟨rfl, g_915, g_916, g_917, g_918, g_919, g_920, g_921⟩ | ⟨rfl, g_922, g_923, g_924, g_925, g_926, g_927⟩ | ⟨rfl, g_928, g_929, g_930, g_931, g_932, g_933⟩ | ⟨rfl, g_934, g_935, g_936, g_937⟩ | ⟨rfl, g_938, g_939, g_940, g_941, g_942⟩ | ⟨rfl, g_943, g_944, g_945, g_946, g_947⟩
    · exfalso; omega
    · exfalso; omega
    · exfalso; omega
    · exfalso; omega
    · exfalso; omega
    · exfalso; omega
    · exfalso; omega
    · exfalso; omega
    · exfalso; omega
    · exfalso; omega
    · exfalso; omega
    · exfalso; omega
    · exfalso; omega
    · exfalso; omega
    · exfalso; omega
    · exfalso; omega
    · exfalso; omega
    · refine lv_icmp_eq (tgt := 1371) hx hb dL_law_711 (by decide) (fun c_948 => ?_) (fun c_948 => ?_)
      · refine lv_iinc (v := 6) (lv' := [(3, .int 6), (2, .ref m0), (1, .ref x0), (0, .ref b)]) hx hb dL_law_1371 hl (k := 0) rfl (by decide) (by decide) rfl (fun ls hl => ?_)
        refine lv_goto (tgt := 18) hx hb dL_law_1374 (by decide) ?_
        refine lv_iload_n hx hb dL_law_18 rfl (lv_at hl 0 rfl) ?_
        refine lv_aload_n hx hb dL_law_19 rfl (lv_at hl 3 rfl) ?_
        refine va_slen hx hb hX hbl hbA hS dL_law_20 ?_
        refine lv_topi (fun y_949 ey_949 => ?_)
        obtain rfl : y_949 = 6 := ey_949.trans (by decide)
        refine lv_bipush (v := 6) hx hb dL_law_21 (by decide) ?_
        refine lv_isub hx hb dL_law_23 ?_
        refine lv_topi (fun y_950 ey_950 => ?_)
        obtain rfl : y_950 = 0 := ey_950.trans (by decide)
        refine lv_icmp_gt (tgt := 1377) hx hb dL_law_24 (by decide) (fun c_951 => ?_) (fun c_951 => ?_)
        · refine lv_iconst (v := 1) hx hb dL_law_1377 (by decide) ?_
          refine va_forget (fun q hq => hS.2.2 q hq) ?_
          refine W.widen (k := 600000) (n := 7302250) (Nat.le_of_ble_eq_true rfl) (Nat.le_of_ble_eq_true rfl) ?_
          exact lw_ret hx hb hr hlocks dL_law_1378
        · exact absurd c_951 (by decide)
      · exact absurd c_948 (by decide)
    · exfalso; omega
    · exfalso; omega
    · exfalso; omega
  · refine lv_aload_n hx hb dL_law_697 rfl (lv_at hl 1 rfl) ?_
    refine lv_aload_n hx hb dL_law_698 rfl (lv_at hl 3 rfl) ?_
    refine lv_iload_n hx hb dL_law_699 rfl (lv_at hl 0 rfl) ?_
    refine lv_iconst (v := 1) hx hb dL_law_700 (by decide) ?_
    refine lv_iadd hx hb dL_law_701 ?_
    refine lv_topi (fun y_952 ey_952 => ?_)
    obtain rfl : y_952 = 1 := ey_952.trans (by decide)
    refine va_sld hx hb hX hbl hbA hS (zf_in (by decide) (by decide)) dL_law_702 ?_
    refine lv_topi (fun y_953 ey_953 => ?_)
    obtain rfl : a_3 = y_953 := ea_3.trans ey_953.symm
    refine lv_aload_n hx hb dL_law_703 rfl (lv_at hl 3 rfl) ?_
    refine lv_iload_n hx hb dL_law_704 rfl (lv_at hl 0 rfl) ?_
    refine lv_iconst (v := 2) hx hb dL_law_705 (by decide) ?_
    refine lv_iadd hx hb dL_law_706 ?_
    refine lv_topi (fun y_954 ey_954 => ?_)
    obtain rfl : y_954 = 2 := ey_954.trans (by decide)
    refine va_sld hx hb hX hbl hbA hS (zf_in (by decide) (by decide)) dL_law_707 ?_
    refine lv_topi (fun y_955 ey_955 => ?_)
    obtain rfl : a_6 = y_955 := ea_6.trans ey_955.symm
    skip
    refine zw_V (As := [.int a_3, .int a_6]) (rest := [.int (-6)]) (wr := [(mki, .inl (cI, 8, .inl (fun _ => 0))), (mpa, .inl (cI, 8, .inl (fun _ => 0))), (mta, .inl (cI, 8, .inl (fun _ => 0))), (mla, .inl (cI, 40, .inl (fun _ => 0))), (msl, .inl (cI, 40, .inl (fun _ => 0))), (mhe, .inl (cI, 8, .inl (fun _ => 0))), (mso, .inl (cI, 8, .inl (fun _ => 0))), (msi, .inl (cI, 8, .inl (fun _ => 0))), (msh, .inl (cI, 8, .inl (fun _ => 0))), (mce, .inl (cJ, 1280, .inr (.inl (fun _ => 0)))), (mca, .inl (cJ, 160, .inr (.inl (fun _ => 0)))), (mwo, .inl (cI, 64, .inl fw_)), (mnu, .inl (cI, 10, .inl fn_)), (mte, .inl (cI, 3, .inl (fun _ => 0))), (mwa, .inl (cI, 130, .inl (fun _ => 0))), (mke, .inl (cI, 130, .inl (fun _ => 0))), (mma, .inl (cI, 3, .inl (fun _ => 0))), (mth, .inl (cI, 3, .inl (fun _ => 0))), (mtr, .inl (cI, 20, .inl (fun _ => 0)))]) ⟨hx, hb, hml, hown, hts⟩ (c_M_ask l D cI cJ cZ cP cS m0 mrf mki mpa mta mla msl mco mhe mso msi msh mce mca mwo mnu mte mwa mke mma mth mtr (a_3) (a_6)  H.size) (cwV 2 hts gq_73 rfl rfl rfl (by decide +kernel) ⟨Nat.le_of_ble_eq_true rfl, Nat.le_of_ble_eq_true rfl⟩) hK hN (hZ.kept hS) hP hD hS hA [0, 1, 7] [2, 3, 4, 5, 6, 8, 9, 10, 11, 12, 13, 14, 15, 16, 17, 18, 19, 20, 21] rfl rfl (by decide) (by decide) (by decide) (va_recv hK hP (ci := 8) (q0 := 0) rfl rfl) rfl hl.1 rfl (Nat.le_of_ble_eq_true rfl) dL_law_708 ⟨Nat.le_of_ble_eq_true rfl, Nat.le_of_ble_eq_true rfl⟩ (fun r_956 u_957 H locs hr_956 hP hD hS => ?_)
    replace hP : va_P D vwCl [(mki, .inl (cI, 8, .inl (fun _ => 0))), (mpa, .inl (cI, 8, .inl (fun _ => 0))), (mta, .inl (cI, 8, .inl (fun _ => 0))), (mla, .inl (cI, 40, .inl (fun _ => 0))), (msl, .inl (cI, 40, .inl (fun _ => 0))), (mhe, .inl (cI, 8, .inl (fun _ => 0))), (mso, .inl (cI, 8, .inl (fun _ => 0))), (msi, .inl (cI, 8, .inl (fun _ => 0))), (msh, .inl (cI, 8, .inl (fun _ => 0))), (mce, .inl (cJ, 1280, .inr (.inl (fun _ => 0)))), (mca, .inl (cJ, 160, .inr (.inl (fun _ => 0)))), (mwo, .inl (cI, 64, .inl fw_)), (mnu, .inl (cI, 10, .inl fn_)), (mte, .inl (cI, 3, .inl (fun _ => 0))), (mwa, .inl (cI, 130, .inl (fun _ => 0))), (mke, .inl (cI, 130, .inl (fun _ => 0))), (mma, .inl (cI, 3, .inl (fun _ => 0))), (mth, .inl (cI, 3, .inl (fun _ => 0))), (mtr, .inl (cI, 20, .inl (fun _ => 0)))] H := hP
    replace hD : va_D _ [(mki, .inl (cI, 8, .inl (fun _ => 0))), (mpa, .inl (cI, 8, .inl (fun _ => 0))), (mta, .inl (cI, 8, .inl (fun _ => 0))), (mla, .inl (cI, 40, .inl (fun _ => 0))), (msl, .inl (cI, 40, .inl (fun _ => 0))), (mhe, .inl (cI, 8, .inl (fun _ => 0))), (mso, .inl (cI, 8, .inl (fun _ => 0))), (msi, .inl (cI, 8, .inl (fun _ => 0))), (msh, .inl (cI, 8, .inl (fun _ => 0))), (mce, .inl (cJ, 1280, .inr (.inl (fun _ => 0)))), (mca, .inl (cJ, 160, .inr (.inl (fun _ => 0)))), (mwo, .inl (cI, 64, .inl fw_)), (mnu, .inl (cI, 10, .inl fn_)), (mte, .inl (cI, 3, .inl (fun _ => 0))), (mwa, .inl (cI, 130, .inl (fun _ => 0))), (mke, .inl (cI, 130, .inl (fun _ => 0))), (mma, .inl (cI, 3, .inl (fun _ => 0))), (mth, .inl (cI, 3, .inl (fun _ => 0))), (mtr, .inl (cI, 20, .inl (fun _ => 0)))] := hD
    rcases hr_956 with ⟨rfl, g_958⟩ | ⟨rfl, g_959, g_960⟩ | ⟨rfl, g_961, g_962, g_963, g_964⟩ | ⟨rfl, g_965, g_966, g_967, g_968, g_969, g_970, g_971, g_972⟩ | ⟨rfl, g_973, g_974, g_975, g_976, g_977, g_978, g_979, g_980⟩ | ⟨rfl, g_981, g_982, g_983, g_984, g_985, g_986, g_987, g_988, g_989⟩ | ⟨rfl, g_990, g_991, g_992, g_993, g_994, g_995, g_996, g_997, g_998, g_999⟩ | ⟨rfl, g_1000, g_1001, g_1002, g_1003, g_1004, g_1005, g_1006, g_1007, g_1008, g_1009⟩ | ⟨rfl, g_1010, g_1011, g_1012, g_1013, g_1014, g_1015, g_1016, g_1017, g_1018, g_1019⟩ | ⟨rfl, g_1020, g_1021, g_1022, g_1023, g_1024, g_1025, g_1026, g_1027, g_1028, g_1029⟩ | ⟨rfl, g_1030, g_1031, g_1032, g_1033, g_1034, g_1035, g_1036, g_1037, g_1038⟩ | ⟨rfl, g_1039, g_1040, g_1041, g_1042, g_1043, g_1044, g_1045, g_1046, g_1047⟩ | ⟨rfl, g_1048, g_1049, g_1050, g_1051, g_1052, g_1053, g_1054, g_1055, g_1056⟩ | ⟨rfl, g_1057, g_1058, g_1059, g_1060, g_1061, g_1062, g_1063, g_1064, g_1065⟩ | ⟨rfl, g_1066, g_1067, g_1068, g_1069, g_1070, g_1071, g_1072⟩ | ⟨rfl, g_1073, g_1074, g_1075, g_1076, g_1077, g_1078, g_1079⟩ | ⟨rfl, g_1080, g_1081, g_1082, g_1083, g_1084, g_1085⟩ | ⟨rfl, g_1086, g_1087, g_1088, g_1089, g_1090, g_1091⟩ | ⟨rfl, g_1092, g_1093, g_1094, g_1095⟩ | ⟨rfl, g_1096, g_1097, g_1098, g_1099, g_1100⟩ | ⟨rfl, g_1101, g_1102, g_1103, g_1104, g_1105⟩
    · exfalso; omega
    · exfalso; omega
    · refine lv_icmp_eq (tgt := 1371) hx hb dL_law_711 (by decide) (fun c_1106 => ?_) (fun c_1106 => ?_)
      · refine lv_iinc (v := 6) (lv' := [(3, .int 6), (2, .ref m0), (1, .ref x0), (0, .ref b)]) hx hb dL_law_1371 hl (k := 0) rfl (by decide) (by decide) rfl (fun ls hl => ?_)
        refine lv_goto (tgt := 18) hx hb dL_law_1374 (by decide) ?_
        refine lv_iload_n hx hb dL_law_18 rfl (lv_at hl 0 rfl) ?_
        refine lv_aload_n hx hb dL_law_19 rfl (lv_at hl 3 rfl) ?_
        refine va_slen hx hb hX hbl hbA hS dL_law_20 ?_
        refine lv_topi (fun y_1107 ey_1107 => ?_)
        obtain rfl : y_1107 = 6 := ey_1107.trans (by decide)
        refine lv_bipush (v := 6) hx hb dL_law_21 (by decide) ?_
        refine lv_isub hx hb dL_law_23 ?_
        refine lv_topi (fun y_1108 ey_1108 => ?_)
        obtain rfl : y_1108 = 0 := ey_1108.trans (by decide)
        refine lv_icmp_gt (tgt := 1377) hx hb dL_law_24 (by decide) (fun c_1109 => ?_) (fun c_1109 => ?_)
        · refine lv_iconst (v := 1) hx hb dL_law_1377 (by decide) ?_
          refine va_forget (fun q hq => hS.2.2 q hq) ?_
          refine W.widen (k := 600000) (n := 7302250) (Nat.le_of_ble_eq_true rfl) (Nat.le_of_ble_eq_true rfl) ?_
          exact lw_ret hx hb hr hlocks dL_law_1378
        · exact absurd c_1109 (by decide)
      · exact absurd c_1106 (by decide)
    · exfalso; omega
    · exfalso; omega
    · exfalso; omega
    · exfalso; omega
    · exfalso; omega
    · exfalso; omega
    · exfalso; omega
    · exfalso; omega
    · exfalso; omega
    · exfalso; omega
    · exfalso; omega
    · exfalso; omega
    · exfalso; omega
    · exfalso; omega
    · exfalso; omega
    · exfalso; omega
    · exfalso; omega
    · exfalso; omega
  · refine lv_aload_n hx hb dL_law_697 rfl (lv_at hl 1 rfl) ?_
    refine lv_aload_n hx hb dL_law_698 rfl (lv_at hl 3 rfl) ?_
    refine lv_iload_n hx hb dL_law_699 rfl (lv_at hl 0 rfl) ?_
    refine lv_iconst (v := 1) hx hb dL_law_700 (by decide) ?_
    refine lv_iadd hx hb dL_law_701 ?_
    refine lv_topi (fun y_1110 ey_1110 => ?_)
    obtain rfl : y_1110 = 1 := ey_1110.trans (by decide)
    refine va_sld hx hb hX hbl hbA hS (zf_in (by decide) (by decide)) dL_law_702 ?_
    refine lv_topi (fun y_1111 ey_1111 => ?_)
    obtain rfl : a_3 = y_1111 := ea_3.trans ey_1111.symm
    refine lv_aload_n hx hb dL_law_703 rfl (lv_at hl 3 rfl) ?_
    refine lv_iload_n hx hb dL_law_704 rfl (lv_at hl 0 rfl) ?_
    refine lv_iconst (v := 2) hx hb dL_law_705 (by decide) ?_
    refine lv_iadd hx hb dL_law_706 ?_
    refine lv_topi (fun y_1112 ey_1112 => ?_)
    obtain rfl : y_1112 = 2 := ey_1112.trans (by decide)
    refine va_sld hx hb hX hbl hbA hS (zf_in (by decide) (by decide)) dL_law_707 ?_
    refine lv_topi (fun y_1113 ey_1113 => ?_)
    obtain rfl : a_6 = y_1113 := ea_6.trans ey_1113.symm
    skip
    refine zw_V (As := [.int a_3, .int a_6]) (rest := [.int (-6)]) (wr := [(mki, .inl (cI, 8, .inl (fun _ => 0))), (mpa, .inl (cI, 8, .inl (fun _ => 0))), (mta, .inl (cI, 8, .inl (fun _ => 0))), (mla, .inl (cI, 40, .inl (fun _ => 0))), (msl, .inl (cI, 40, .inl (fun _ => 0))), (mhe, .inl (cI, 8, .inl (fun _ => 0))), (mso, .inl (cI, 8, .inl (fun _ => 0))), (msi, .inl (cI, 8, .inl (fun _ => 0))), (msh, .inl (cI, 8, .inl (fun _ => 0))), (mce, .inl (cJ, 1280, .inr (.inl (fun _ => 0)))), (mca, .inl (cJ, 160, .inr (.inl (fun _ => 0)))), (mwo, .inl (cI, 64, .inl fw_)), (mnu, .inl (cI, 10, .inl fn_)), (mte, .inl (cI, 3, .inl (fun _ => 0))), (mwa, .inl (cI, 130, .inl (fun _ => 0))), (mke, .inl (cI, 130, .inl (fun _ => 0))), (mma, .inl (cI, 3, .inl (fun _ => 0))), (mth, .inl (cI, 3, .inl (fun _ => 0))), (mtr, .inl (cI, 20, .inl (fun _ => 0)))]) ⟨hx, hb, hml, hown, hts⟩ (c_M_ask l D cI cJ cZ cP cS m0 mrf mki mpa mta mla msl mco mhe mso msi msh mce mca mwo mnu mte mwa mke mma mth mtr (a_3) (a_6)  H.size) (cwV 2 hts gq_73 rfl rfl rfl (by decide +kernel) ⟨Nat.le_of_ble_eq_true rfl, Nat.le_of_ble_eq_true rfl⟩) hK hN (hZ.kept hS) hP hD hS hA [0, 1, 7] [2, 3, 4, 5, 6, 8, 9, 10, 11, 12, 13, 14, 15, 16, 17, 18, 19, 20, 21] rfl rfl (by decide) (by decide) (by decide) (va_recv hK hP (ci := 8) (q0 := 0) rfl rfl) rfl hl.1 rfl (Nat.le_of_ble_eq_true rfl) dL_law_708 ⟨Nat.le_of_ble_eq_true rfl, Nat.le_of_ble_eq_true rfl⟩ (fun r_1114 u_1115 H locs hr_1114 hP hD hS => ?_)
    replace hP : va_P D vwCl [(mki, .inl (cI, 8, .inl (fun _ => 0))), (mpa, .inl (cI, 8, .inl (fun _ => 0))), (mta, .inl (cI, 8, .inl (fun _ => 0))), (mla, .inl (cI, 40, .inl (fun _ => 0))), (msl, .inl (cI, 40, .inl (fun _ => 0))), (mhe, .inl (cI, 8, .inl (fun _ => 0))), (mso, .inl (cI, 8, .inl (fun _ => 0))), (msi, .inl (cI, 8, .inl (fun _ => 0))), (msh, .inl (cI, 8, .inl (fun _ => 0))), (mce, .inl (cJ, 1280, .inr (.inl (fun _ => 0)))), (mca, .inl (cJ, 160, .inr (.inl (fun _ => 0)))), (mwo, .inl (cI, 64, .inl fw_)), (mnu, .inl (cI, 10, .inl fn_)), (mte, .inl (cI, 3, .inl (fun _ => 0))), (mwa, .inl (cI, 130, .inl (fun _ => 0))), (mke, .inl (cI, 130, .inl (fun _ => 0))), (mma, .inl (cI, 3, .inl (fun _ => 0))), (mth, .inl (cI, 3, .inl (fun _ => 0))), (mtr, .inl (cI, 20, .inl (fun _ => 0)))] H := hP
    replace hD : va_D _ [(mki, .inl (cI, 8, .inl (fun _ => 0))), (mpa, .inl (cI, 8, .inl (fun _ => 0))), (mta, .inl (cI, 8, .inl (fun _ => 0))), (mla, .inl (cI, 40, .inl (fun _ => 0))), (msl, .inl (cI, 40, .inl (fun _ => 0))), (mhe, .inl (cI, 8, .inl (fun _ => 0))), (mso, .inl (cI, 8, .inl (fun _ => 0))), (msi, .inl (cI, 8, .inl (fun _ => 0))), (msh, .inl (cI, 8, .inl (fun _ => 0))), (mce, .inl (cJ, 1280, .inr (.inl (fun _ => 0)))), (mca, .inl (cJ, 160, .inr (.inl (fun _ => 0)))), (mwo, .inl (cI, 64, .inl fw_)), (mnu, .inl (cI, 10, .inl fn_)), (mte, .inl (cI, 3, .inl (fun _ => 0))), (mwa, .inl (cI, 130, .inl (fun _ => 0))), (mke, .inl (cI, 130, .inl (fun _ => 0))), (mma, .inl (cI, 3, .inl (fun _ => 0))), (mth, .inl (cI, 3, .inl (fun _ => 0))), (mtr, .inl (cI, 20, .inl (fun _ => 0)))] := hD
    rcases hr_1114 with ⟨rfl, g_1116⟩ | ⟨rfl, g_1117, g_1118⟩ | ⟨rfl, g_1119, g_1120, g_1121, g_1122⟩ | ⟨rfl, g_1123, g_1124, g_1125, g_1126, g_1127, g_1128, g_1129, g_1130⟩ | ⟨rfl, g_1131, g_1132, g_1133, g_1134, g_1135, g_1136, g_1137, g_1138⟩ | ⟨rfl, g_1139, g_1140, g_1141, g_1142, g_1143, g_1144, g_1145, g_1146, g_1147⟩ | ⟨rfl, g_1148, g_1149, g_1150, g_1151, g_1152, g_1153, g_1154, g_1155, g_1156, g_1157⟩ | ⟨rfl, g_1158, g_1159, g_1160, g_1161, g_1162, g_1163, g_1164, g_1165, g_1166, g_1167⟩ | ⟨rfl, g_1168, g_1169, g_1170, g_1171, g_1172, g_1173, g_1174, g_1175, g_1176, g_1177⟩ | ⟨rfl, g_1178, g_1179, g_1180, g_1181, g_1182, g_1183, g_1184, g_1185, g_1186, g_1187⟩ | ⟨rfl, g_1188, g_1189, g_1190, g_1191, g_1192, g_1193, g_1194, g_1195, g_1196⟩ | ⟨rfl, g_1197, g_1198, g_1199, g_1200, g_1201, g_1202, g_1203, g_1204, g_1205⟩ | ⟨rfl, g_1206, g_1207, g_1208, g_1209, g_1210, g_1211, g_1212, g_1213, g_1214⟩ | ⟨rfl, g_1215, g_1216, g_1217, g_1218, g_1219, g_1220, g_1221, g_1222, g_1223⟩ | ⟨rfl, g_1224, g_1225, g_1226, g_1227, g_1228, g_1229, g_1230⟩ | ⟨rfl, g_1231, g_1232, g_1233, g_1234, g_1235, g_1236, g_1237⟩ | ⟨rfl, g_1238, g_1239, g_1240, g_1241, g_1242, g_1243⟩ | ⟨rfl, g_1244, g_1245, g_1246, g_1247, g_1248, g_1249⟩ | ⟨rfl, g_1250, g_1251, g_1252, g_1253⟩ | ⟨rfl, g_1254, g_1255, g_1256, g_1257, g_1258⟩ | ⟨rfl, g_1259, g_1260, g_1261, g_1262, g_1263⟩
    · exfalso; omega
    · exfalso; omega
    · exfalso; omega
    · exfalso; omega
    · exfalso; omega
    · exfalso; omega
    · exfalso; omega
    · exfalso; omega
    · exfalso; omega
    · exfalso; omega
    · exfalso; omega
    · exfalso; omega
    · exfalso; omega
    · exfalso; omega
    · refine lv_icmp_eq (tgt := 1371) hx hb dL_law_711 (by decide) (fun c_1264 => ?_) (fun c_1264 => ?_)
      · refine lv_iinc (v := 6) (lv' := [(3, .int 6), (2, .ref m0), (1, .ref x0), (0, .ref b)]) hx hb dL_law_1371 hl (k := 0) rfl (by decide) (by decide) rfl (fun ls hl => ?_)
        refine lv_goto (tgt := 18) hx hb dL_law_1374 (by decide) ?_
        refine lv_iload_n hx hb dL_law_18 rfl (lv_at hl 0 rfl) ?_
        refine lv_aload_n hx hb dL_law_19 rfl (lv_at hl 3 rfl) ?_
        refine va_slen hx hb hX hbl hbA hS dL_law_20 ?_
        refine lv_topi (fun y_1265 ey_1265 => ?_)
        obtain rfl : y_1265 = 6 := ey_1265.trans (by decide)
        refine lv_bipush (v := 6) hx hb dL_law_21 (by decide) ?_
        refine lv_isub hx hb dL_law_23 ?_
        refine lv_topi (fun y_1266 ey_1266 => ?_)
        obtain rfl : y_1266 = 0 := ey_1266.trans (by decide)
        refine lv_icmp_gt (tgt := 1377) hx hb dL_law_24 (by decide) (fun c_1267 => ?_) (fun c_1267 => ?_)
        · refine lv_iconst (v := 1) hx hb dL_law_1377 (by decide) ?_
          refine va_forget (fun q hq => hS.2.2 q hq) ?_
          refine W.widen (k := 600000) (n := 7302250) (Nat.le_of_ble_eq_true rfl) (Nat.le_of_ble_eq_true rfl) ?_
          exact lw_ret hx hb hr hlocks dL_law_1378
        · exact absurd c_1267 (by decide)
      · exact absurd c_1264 (by decide)
    · exfalso; omega
    · exfalso; omega
    · exfalso; omega
    · exfalso; omega
    · exfalso; omega
    · exfalso; omega
  · refine lv_aload_n hx hb dL_law_697 rfl (lv_at hl 1 rfl) ?_
    refine lv_aload_n hx hb dL_law_698 rfl (lv_at hl 3 rfl) ?_
    refine lv_iload_n hx hb dL_law_699 rfl (lv_at hl 0 rfl) ?_
    refine lv_iconst (v := 1) hx hb dL_law_700 (by decide) ?_
    refine lv_iadd hx hb dL_law_701 ?_
    refine lv_topi (fun y_1268 ey_1268 => ?_)
    obtain rfl : y_1268 = 1 := ey_1268.trans (by decide)
    refine va_sld hx hb hX hbl hbA hS (zf_in (by decide) (by decide)) dL_law_702 ?_
    refine lv_topi (fun y_1269 ey_1269 => ?_)
    obtain rfl : a_3 = y_1269 := ea_3.trans ey_1269.symm
    refine lv_aload_n hx hb dL_law_703 rfl (lv_at hl 3 rfl) ?_
    refine lv_iload_n hx hb dL_law_704 rfl (lv_at hl 0 rfl) ?_
    refine lv_iconst (v := 2) hx hb dL_law_705 (by decide) ?_
    refine lv_iadd hx hb dL_law_706 ?_
    refine lv_topi (fun y_1270 ey_1270 => ?_)
    obtain rfl : y_1270 = 2 := ey_1270.trans (by decide)
    refine va_sld hx hb hX hbl hbA hS (zf_in (by decide) (by decide)) dL_law_707 ?_
    refine lv_topi (fun y_1271 ey_1271 => ?_)
    obtain rfl : a_6 = y_1271 := ea_6.trans ey_1271.symm
    skip
    refine zw_V (As := [.int a_3, .int a_6]) (rest := [.int 60]) (wr := [(mki, .inl (cI, 8, .inl (fun _ => 0))), (mpa, .inl (cI, 8, .inl (fun _ => 0))), (mta, .inl (cI, 8, .inl (fun _ => 0))), (mla, .inl (cI, 40, .inl (fun _ => 0))), (msl, .inl (cI, 40, .inl (fun _ => 0))), (mhe, .inl (cI, 8, .inl (fun _ => 0))), (mso, .inl (cI, 8, .inl (fun _ => 0))), (msi, .inl (cI, 8, .inl (fun _ => 0))), (msh, .inl (cI, 8, .inl (fun _ => 0))), (mce, .inl (cJ, 1280, .inr (.inl (fun _ => 0)))), (mca, .inl (cJ, 160, .inr (.inl (fun _ => 0)))), (mwo, .inl (cI, 64, .inl fw_)), (mnu, .inl (cI, 10, .inl fn_)), (mte, .inl (cI, 3, .inl (fun _ => 0))), (mwa, .inl (cI, 130, .inl (fun _ => 0))), (mke, .inl (cI, 130, .inl (fun _ => 0))), (mma, .inl (cI, 3, .inl (fun _ => 0))), (mth, .inl (cI, 3, .inl (fun _ => 0))), (mtr, .inl (cI, 20, .inl (fun _ => 0)))]) ⟨hx, hb, hml, hown, hts⟩ (c_M_ask l D cI cJ cZ cP cS m0 mrf mki mpa mta mla msl mco mhe mso msi msh mce mca mwo mnu mte mwa mke mma mth mtr (a_3) (a_6)  H.size) (cwV 2 hts gq_73 rfl rfl rfl (by decide +kernel) ⟨Nat.le_of_ble_eq_true rfl, Nat.le_of_ble_eq_true rfl⟩) hK hN (hZ.kept hS) hP hD hS hA [0, 1, 7] [2, 3, 4, 5, 6, 8, 9, 10, 11, 12, 13, 14, 15, 16, 17, 18, 19, 20, 21] rfl rfl (by decide) (by decide) (by decide) (va_recv hK hP (ci := 8) (q0 := 0) rfl rfl) rfl hl.1 rfl (Nat.le_of_ble_eq_true rfl) dL_law_708 ⟨Nat.le_of_ble_eq_true rfl, Nat.le_of_ble_eq_true rfl⟩ (fun r_1272 u_1273 H locs hr_1272 hP hD hS => ?_)
    replace hP : va_P D vwCl [(mki, .inl (cI, 8, .inl (fun _ => 0))), (mpa, .inl (cI, 8, .inl (fun _ => 0))), (mta, .inl (cI, 8, .inl (fun _ => 0))), (mla, .inl (cI, 40, .inl (fun _ => 0))), (msl, .inl (cI, 40, .inl (fun _ => 0))), (mhe, .inl (cI, 8, .inl (fun _ => 0))), (mso, .inl (cI, 8, .inl (fun _ => 0))), (msi, .inl (cI, 8, .inl (fun _ => 0))), (msh, .inl (cI, 8, .inl (fun _ => 0))), (mce, .inl (cJ, 1280, .inr (.inl (fun _ => 0)))), (mca, .inl (cJ, 160, .inr (.inl (fun _ => 0)))), (mwo, .inl (cI, 64, .inl fw_)), (mnu, .inl (cI, 10, .inl fn_)), (mte, .inl (cI, 3, .inl (fun _ => 0))), (mwa, .inl (cI, 130, .inl (fun _ => 0))), (mke, .inl (cI, 130, .inl (fun _ => 0))), (mma, .inl (cI, 3, .inl (fun _ => 0))), (mth, .inl (cI, 3, .inl (fun _ => 0))), (mtr, .inl (cI, 20, .inl (fun _ => 0)))] H := hP
    replace hD : va_D _ [(mki, .inl (cI, 8, .inl (fun _ => 0))), (mpa, .inl (cI, 8, .inl (fun _ => 0))), (mta, .inl (cI, 8, .inl (fun _ => 0))), (mla, .inl (cI, 40, .inl (fun _ => 0))), (msl, .inl (cI, 40, .inl (fun _ => 0))), (mhe, .inl (cI, 8, .inl (fun _ => 0))), (mso, .inl (cI, 8, .inl (fun _ => 0))), (msi, .inl (cI, 8, .inl (fun _ => 0))), (msh, .inl (cI, 8, .inl (fun _ => 0))), (mce, .inl (cJ, 1280, .inr (.inl (fun _ => 0)))), (mca, .inl (cJ, 160, .inr (.inl (fun _ => 0)))), (mwo, .inl (cI, 64, .inl fw_)), (mnu, .inl (cI, 10, .inl fn_)), (mte, .inl (cI, 3, .inl (fun _ => 0))), (mwa, .inl (cI, 130, .inl (fun _ => 0))), (mke, .inl (cI, 130, .inl (fun _ => 0))), (mma, .inl (cI, 3, .inl (fun _ => 0))), (mth, .inl (cI, 3, .inl (fun _ => 0))), (mtr, .inl (cI, 20, .inl (fun _ => 0)))] := hD
    rcases hr_1272 with ⟨rfl, g_1274⟩ | ⟨rfl, g_1275, g_1276⟩ | ⟨rfl, g_1277, g_1278, g_1279, g_1280⟩ | ⟨rfl, g_1281, g_1282, g_1283, g_1284, g_1285, g_1286, g_1287, g_1288⟩ | ⟨rfl, g_1289, g_1290, g_1291, g_1292, g_1293, g_1294, g_1295, g_1296⟩ | ⟨rfl, g_1297, g_1298, g_1299, g_1300, g_1301, g_1302, g_1303, g_1304, g_1305⟩ | ⟨rfl, g_1306, g_1307, g_1308, g_1309, g_1310, g_1311, g_1312, g_1313, g_1314, g_1315⟩ | ⟨rfl, g_1316, g_1317, g_1318, g_1319, g_1320, g_1321, g_1322, g_1323, g_1324, g_1325⟩ | ⟨rfl, g_1326, g_1327, g_1328, g_1329, g_1330, g_1331, g_1332, g_1333, g_1334, g_1335⟩ | ⟨rfl, g_1336, g_1337, g_1338, g_1339, g_1340, g_1341, g_1342, g_1343, g_1344, g_1345⟩ | ⟨rfl, g_1346, g_1347, g_1348, g_1349, g_1350, g_1351, g_1352, g_1353, g_1354⟩ | ⟨rfl, g_1355, g_1356, g_1357, g_1358, g_1359, g_1360, g_1361, g_1362, g_1363⟩ | ⟨rfl, g_1364, g_1365, g_1366, g_1367, g_1368, g_1369, g_1370, g_1371, g_1372⟩ | ⟨rfl, g_1373, g_1374, g_1375, g_1376, g_1377, g_1378, g_1379, g_1380, g_1381⟩ | ⟨rfl, g_1382, g_1383, g_1384, g_1385, g_1386, g_1387, g_1388⟩ | ⟨rfl, g_1389, g_1390, g_1391, g_1392, g_1393, g_1394, g_1395⟩ | ⟨rfl, g_1396, g_1397, g_1398, g_1399, g_1400, g_1401⟩ | ⟨rfl, g_1402, g_1403, g_1404, g_1405, g_1406, g_1407⟩ | ⟨rfl, g_1408, g_1409, g_1410, g_1411⟩ | ⟨rfl, g_1412, g_1413, g_1414, g_1415, g_1416⟩ | ⟨rfl, g_1417, g_1418, g_1419, g_1420, g_1421⟩
    · exfalso; omega
    · exfalso; omega
    · exfalso; omega
    · exfalso; omega
    · exfalso; omega
    · exfalso; omega
    · exfalso; omega
    · exfalso; omega
    · exfalso; omega
    · exfalso; omega
    · exfalso; omega
    · exfalso; omega
    · exfalso; omega
    · exfalso; omega
    · exfalso; omega
    · refine lv_icmp_eq (tgt := 1371) hx hb dL_law_711 (by decide) (fun c_1422 => ?_) (fun c_1422 => ?_)
      · refine lv_iinc (v := 6) (lv' := [(3, .int 6), (2, .ref m0), (1, .ref x0), (0, .ref b)]) hx hb dL_law_1371 hl (k := 0) rfl (by decide) (by decide) rfl (fun ls hl => ?_)
        refine lv_goto (tgt := 18) hx hb dL_law_1374 (by decide) ?_
        refine lv_iload_n hx hb dL_law_18 rfl (lv_at hl 0 rfl) ?_
        refine lv_aload_n hx hb dL_law_19 rfl (lv_at hl 3 rfl) ?_
        refine va_slen hx hb hX hbl hbA hS dL_law_20 ?_
        refine lv_topi (fun y_1423 ey_1423 => ?_)
        obtain rfl : y_1423 = 6 := ey_1423.trans (by decide)
        refine lv_bipush (v := 6) hx hb dL_law_21 (by decide) ?_
        refine lv_isub hx hb dL_law_23 ?_
        refine lv_topi (fun y_1424 ey_1424 => ?_)
        obtain rfl : y_1424 = 0 := ey_1424.trans (by decide)
        refine lv_icmp_gt (tgt := 1377) hx hb dL_law_24 (by decide) (fun c_1425 => ?_) (fun c_1425 => ?_)
        · refine lv_iconst (v := 1) hx hb dL_law_1377 (by decide) ?_
          refine va_forget (fun q hq => hS.2.2 q hq) ?_
          refine W.widen (k := 600000) (n := 7302250) (Nat.le_of_ble_eq_true rfl) (Nat.le_of_ble_eq_true rfl) ?_
          exact lw_ret hx hb hr hlocks dL_law_1378
        · exact absurd c_1425 (by decide)
      · exact absurd c_1422 (by decide)
    · exfalso; omega
    · exfalso; omega
    · exfalso; omega
    · exfalso; omega
    · exfalso; omega
  · refine lv_aload_n hx hb dL_law_697 rfl (lv_at hl 1 rfl) ?_
    refine lv_aload_n hx hb dL_law_698 rfl (lv_at hl 3 rfl) ?_
    refine lv_iload_n hx hb dL_law_699 rfl (lv_at hl 0 rfl) ?_
    refine lv_iconst (v := 1) hx hb dL_law_700 (by decide) ?_
    refine lv_iadd hx hb dL_law_701 ?_
    refine lv_topi (fun y_1426 ey_1426 => ?_)
    obtain rfl : y_1426 = 1 := ey_1426.trans (by decide)
    refine va_sld hx hb hX hbl hbA hS (zf_in (by decide) (by decide)) dL_law_702 ?_
    refine lv_topi (fun y_1427 ey_1427 => ?_)
    obtain rfl : a_3 = y_1427 := ea_3.trans ey_1427.symm
    refine lv_aload_n hx hb dL_law_703 rfl (lv_at hl 3 rfl) ?_
    refine lv_iload_n hx hb dL_law_704 rfl (lv_at hl 0 rfl) ?_
    refine lv_iconst (v := 2) hx hb dL_law_705 (by decide) ?_
    refine lv_iadd hx hb dL_law_706 ?_
    refine lv_topi (fun y_1428 ey_1428 => ?_)
    obtain rfl : y_1428 = 2 := ey_1428.trans (by decide)
    refine va_sld hx hb hX hbl hbA hS (zf_in (by decide) (by decide)) dL_law_707 ?_
    refine lv_topi (fun y_1429 ey_1429 => ?_)
    obtain rfl : a_6 = y_1429 := ea_6.trans ey_1429.symm
    skip
    refine zw_V (As := [.int a_3, .int a_6]) (rest := [.int (-6)]) (wr := [(mki, .inl (cI, 8, .inl (fun _ => 0))), (mpa, .inl (cI, 8, .inl (fun _ => 0))), (mta, .inl (cI, 8, .inl (fun _ => 0))), (mla, .inl (cI, 40, .inl (fun _ => 0))), (msl, .inl (cI, 40, .inl (fun _ => 0))), (mhe, .inl (cI, 8, .inl (fun _ => 0))), (mso, .inl (cI, 8, .inl (fun _ => 0))), (msi, .inl (cI, 8, .inl (fun _ => 0))), (msh, .inl (cI, 8, .inl (fun _ => 0))), (mce, .inl (cJ, 1280, .inr (.inl (fun _ => 0)))), (mca, .inl (cJ, 160, .inr (.inl (fun _ => 0)))), (mwo, .inl (cI, 64, .inl fw_)), (mnu, .inl (cI, 10, .inl fn_)), (mte, .inl (cI, 3, .inl (fun _ => 0))), (mwa, .inl (cI, 130, .inl (fun _ => 0))), (mke, .inl (cI, 130, .inl (fun _ => 0))), (mma, .inl (cI, 3, .inl (fun _ => 0))), (mth, .inl (cI, 3, .inl (fun _ => 0))), (mtr, .inl (cI, 20, .inl (fun _ => 0)))]) ⟨hx, hb, hml, hown, hts⟩ (c_M_ask l D cI cJ cZ cP cS m0 mrf mki mpa mta mla msl mco mhe mso msi msh mce mca mwo mnu mte mwa mke mma mth mtr (a_3) (a_6)  H.size) (cwV 2 hts gq_73 rfl rfl rfl (by decide +kernel) ⟨Nat.le_of_ble_eq_true rfl, Nat.le_of_ble_eq_true rfl⟩) hK hN (hZ.kept hS) hP hD hS hA [0, 1, 7] [2, 3, 4, 5, 6, 8, 9, 10, 11, 12, 13, 14, 15, 16, 17, 18, 19, 20, 21] rfl rfl (by decide) (by decide) (by decide) (va_recv hK hP (ci := 8) (q0 := 0) rfl rfl) rfl hl.1 rfl (Nat.le_of_ble_eq_true rfl) dL_law_708 ⟨Nat.le_of_ble_eq_true rfl, Nat.le_of_ble_eq_true rfl⟩ (fun r_1430 u_1431 H locs hr_1430 hP hD hS => ?_)
    replace hP : va_P D vwCl [(mki, .inl (cI, 8, .inl (fun _ => 0))), (mpa, .inl (cI, 8, .inl (fun _ => 0))), (mta, .inl (cI, 8, .inl (fun _ => 0))), (mla, .inl (cI, 40, .inl (fun _ => 0))), (msl, .inl (cI, 40, .inl (fun _ => 0))), (mhe, .inl (cI, 8, .inl (fun _ => 0))), (mso, .inl (cI, 8, .inl (fun _ => 0))), (msi, .inl (cI, 8, .inl (fun _ => 0))), (msh, .inl (cI, 8, .inl (fun _ => 0))), (mce, .inl (cJ, 1280, .inr (.inl (fun _ => 0)))), (mca, .inl (cJ, 160, .inr (.inl (fun _ => 0)))), (mwo, .inl (cI, 64, .inl fw_)), (mnu, .inl (cI, 10, .inl fn_)), (mte, .inl (cI, 3, .inl (fun _ => 0))), (mwa, .inl (cI, 130, .inl (fun _ => 0))), (mke, .inl (cI, 130, .inl (fun _ => 0))), (mma, .inl (cI, 3, .inl (fun _ => 0))), (mth, .inl (cI, 3, .inl (fun _ => 0))), (mtr, .inl (cI, 20, .inl (fun _ => 0)))] H := hP
    replace hD : va_D _ [(mki, .inl (cI, 8, .inl (fun _ => 0))), (mpa, .inl (cI, 8, .inl (fun _ => 0))), (mta, .inl (cI, 8, .inl (fun _ => 0))), (mla, .inl (cI, 40, .inl (fun _ => 0))), (msl, .inl (cI, 40, .inl (fun _ => 0))), (mhe, .inl (cI, 8, .inl (fun _ => 0))), (mso, .inl (cI, 8, .inl (fun _ => 0))), (msi, .inl (cI, 8, .inl (fun _ => 0))), (msh, .inl (cI, 8, .inl (fun _ => 0))), (mce, .inl (cJ, 1280, .inr (.inl (fun _ => 0)))), (mca, .inl (cJ, 160, .inr (.inl (fun _ => 0)))), (mwo, .inl (cI, 64, .inl fw_)), (mnu, .inl (cI, 10, .inl fn_)), (mte, .inl (cI, 3, .inl (fun _ => 0))), (mwa, .inl (cI, 130, .inl (fun _ => 0))), (mke, .inl (cI, 130, .inl (fun _ => 0))), (mma, .inl (cI, 3, .inl (fun _ => 0))), (mth, .inl (cI, 3, .inl (fun _ => 0))), (mtr, .inl (cI, 20, .inl (fun _ => 0)))] := hD
    rcases hr_1430 with ⟨rfl, g_1432⟩ | ⟨rfl, g_1433, g_1434⟩ | ⟨rfl, g_1435, g_1436, g_1437, g_1438⟩ | ⟨rfl, g_1439, g_1440, g_1441, g_1442, g_1443, g_1444, g_1445, g_1446⟩ | ⟨rfl, g_1447, g_1448, g_1449, g_1450, g_1451, g_1452, g_1453, g_1454⟩ | ⟨rfl, g_1455, g_1456, g_1457, g_1458, g_1459, g_1460, g_1461, g_1462, g_1463⟩ | ⟨rfl, g_1464, g_1465, g_1466, g_1467, g_1468, g_1469, g_1470, g_1471, g_1472, g_1473⟩ | ⟨rfl, g_1474, g_1475, g_1476, g_1477, g_1478, g_1479, g_1480, g_1481, g_1482, g_1483⟩ | ⟨rfl, g_1484, g_1485, g_1486, g_1487, g_1488, g_1489, g_1490, g_1491, g_1492, g_1493⟩ | ⟨rfl, g_1494, g_1495, g_1496, g_1497, g_1498, g_1499, g_1500, g_1501, g_1502, g_1503⟩ | ⟨rfl, g_1504, g_1505, g_1506, g_1507, g_1508, g_1509, g_1510, g_1511, g_1512⟩ | ⟨rfl, g_1513, g_1514, g_1515, g_1516, g_1517, g_1518, g_1519, g_1520, g_1521⟩ | ⟨rfl, g_1522, g_1523, g_1524, g_1525, g_1526, g_1527, g_1528, g_1529, g_1530⟩ | ⟨rfl, g_1531, g_1532, g_1533, g_1534, g_1535, g_1536, g_1537, g_1538, g_1539⟩ | ⟨rfl, g_1540, g_1541, g_1542, g_1543, g_1544, g_1545, g_1546⟩ | ⟨rfl, g_1547, g_1548, g_1549, g_1550, g_1551, g_1552, g_1553⟩ | ⟨rfl, g_1554, g_1555, g_1556, g_1557, g_1558, g_1559⟩ | ⟨rfl, g_1560, g_1561, g_1562, g_1563, g_1564, g_1565⟩ | ⟨rfl, g_1566, g_1567, g_1568, g_1569⟩ | ⟨rfl, g_1570, g_1571, g_1572, g_1573, g_1574⟩ | ⟨rfl, g_1575, g_1576, g_1577, g_1578, g_1579⟩
    · exfalso; omega
    · exfalso; omega
    · refine lv_icmp_eq (tgt := 1371) hx hb dL_law_711 (by decide) (fun c_1580 => ?_) (fun c_1580 => ?_)
      · refine lv_iinc (v := 6) (lv' := [(3, .int 6), (2, .ref m0), (1, .ref x0), (0, .ref b)]) hx hb dL_law_1371 hl (k := 0) rfl (by decide) (by decide) rfl (fun ls hl => ?_)
        refine lv_goto (tgt := 18) hx hb dL_law_1374 (by decide) ?_
        refine lv_iload_n hx hb dL_law_18 rfl (lv_at hl 0 rfl) ?_
        refine lv_aload_n hx hb dL_law_19 rfl (lv_at hl 3 rfl) ?_
        refine va_slen hx hb hX hbl hbA hS dL_law_20 ?_
        refine lv_topi (fun y_1581 ey_1581 => ?_)
        obtain rfl : y_1581 = 6 := ey_1581.trans (by decide)
        refine lv_bipush (v := 6) hx hb dL_law_21 (by decide) ?_
        refine lv_isub hx hb dL_law_23 ?_
        refine lv_topi (fun y_1582 ey_1582 => ?_)
        obtain rfl : y_1582 = 0 := ey_1582.trans (by decide)
        refine lv_icmp_gt (tgt := 1377) hx hb dL_law_24 (by decide) (fun c_1583 => ?_) (fun c_1583 => ?_)
        · refine lv_iconst (v := 1) hx hb dL_law_1377 (by decide) ?_
          refine va_forget (fun q hq => hS.2.2 q hq) ?_
          refine W.widen (k := 600000) (n := 7302250) (Nat.le_of_ble_eq_true rfl) (Nat.le_of_ble_eq_true rfl) ?_
          exact lw_ret hx hb hr hlocks dL_law_1378
        · exact absurd c_1583 (by decide)
      · exact absurd c_1580 (by decide)
    · exfalso; omega
    · exfalso; omega
    · exfalso; omega
    · exfalso; omega
    · exfalso; omega
    · exfalso; omega
    · exfalso; omega
    · exfalso; omega
    · exfalso; omega
    · exfalso; omega
    · exfalso; omega
    · exfalso; omega
    · exfalso; omega
    · exfalso; omega
    · exfalso; omega
    · exfalso; omega
    · exfalso; omega
    · exfalso; omega
  · refine lv_aload_n hx hb dL_law_697 rfl (lv_at hl 1 rfl) ?_
    refine lv_aload_n hx hb dL_law_698 rfl (lv_at hl 3 rfl) ?_
    refine lv_iload_n hx hb dL_law_699 rfl (lv_at hl 0 rfl) ?_
    refine lv_iconst (v := 1) hx hb dL_law_700 (by decide) ?_
    refine lv_iadd hx hb dL_law_701 ?_
    refine lv_topi (fun y_1584 ey_1584 => ?_)
    obtain rfl : y_1584 = 1 := ey_1584.trans (by decide)
    refine va_sld hx hb hX hbl hbA hS (zf_in (by decide) (by decide)) dL_law_702 ?_
    refine lv_topi (fun y_1585 ey_1585 => ?_)
    obtain rfl : a_3 = y_1585 := ea_3.trans ey_1585.symm
    refine lv_aload_n hx hb dL_law_703 rfl (lv_at hl 3 rfl) ?_
    refine lv_iload_n hx hb dL_law_704 rfl (lv_at hl 0 rfl) ?_
    refine lv_iconst (v := 2) hx hb dL_law_705 (by decide) ?_
    refine lv_iadd hx hb dL_law_706 ?_
    refine lv_topi (fun y_1586 ey_1586 => ?_)
    obtain rfl : y_1586 = 2 := ey_1586.trans (by decide)
    refine va_sld hx hb hX hbl hbA hS (zf_in (by decide) (by decide)) dL_law_707 ?_
    refine lv_topi (fun y_1587 ey_1587 => ?_)
    obtain rfl : a_6 = y_1587 := ea_6.trans ey_1587.symm
    skip
    refine zw_V (As := [.int a_3, .int a_6]) (rest := [.int (-6)]) (wr := [(mki, .inl (cI, 8, .inl (fun _ => 0))), (mpa, .inl (cI, 8, .inl (fun _ => 0))), (mta, .inl (cI, 8, .inl (fun _ => 0))), (mla, .inl (cI, 40, .inl (fun _ => 0))), (msl, .inl (cI, 40, .inl (fun _ => 0))), (mhe, .inl (cI, 8, .inl (fun _ => 0))), (mso, .inl (cI, 8, .inl (fun _ => 0))), (msi, .inl (cI, 8, .inl (fun _ => 0))), (msh, .inl (cI, 8, .inl (fun _ => 0))), (mce, .inl (cJ, 1280, .inr (.inl (fun _ => 0)))), (mca, .inl (cJ, 160, .inr (.inl (fun _ => 0)))), (mwo, .inl (cI, 64, .inl fw_)), (mnu, .inl (cI, 10, .inl fn_)), (mte, .inl (cI, 3, .inl (fun _ => 0))), (mwa, .inl (cI, 130, .inl (fun _ => 0))), (mke, .inl (cI, 130, .inl (fun _ => 0))), (mma, .inl (cI, 3, .inl (fun _ => 0))), (mth, .inl (cI, 3, .inl (fun _ => 0))), (mtr, .inl (cI, 20, .inl (fun _ => 0)))]) ⟨hx, hb, hml, hown, hts⟩ (c_M_ask l D cI cJ cZ cP cS m0 mrf mki mpa mta mla msl mco mhe mso msi msh mce mca mwo mnu mte mwa mke mma mth mtr (a_3) (a_6)  H.size) (cwV 2 hts gq_73 rfl rfl rfl (by decide +kernel) ⟨Nat.le_of_ble_eq_true rfl, Nat.le_of_ble_eq_true rfl⟩) hK hN (hZ.kept hS) hP hD hS hA [0, 1, 7] [2, 3, 4, 5, 6, 8, 9, 10, 11, 12, 13, 14, 15, 16, 17, 18, 19, 20, 21] rfl rfl (by decide) (by decide) (by decide) (va_recv hK hP (ci := 8) (q0 := 0) rfl rfl) rfl hl.1 rfl (Nat.le_of_ble_eq_true rfl) dL_law_708 ⟨Nat.le_of_ble_eq_true rfl, Nat.le_of_ble_eq_true rfl⟩ (fun r_1588 u_1589 H locs hr_1588 hP hD hS => ?_)
    replace hP : va_P D vwCl [(mki, .inl (cI, 8, .inl (fun _ => 0))), (mpa, .inl (cI, 8, .inl (fun _ => 0))), (mta, .inl (cI, 8, .inl (fun _ => 0))), (mla, .inl (cI, 40, .inl (fun _ => 0))), (msl, .inl (cI, 40, .inl (fun _ => 0))), (mhe, .inl (cI, 8, .inl (fun _ => 0))), (mso, .inl (cI, 8, .inl (fun _ => 0))), (msi, .inl (cI, 8, .inl (fun _ => 0))), (msh, .inl (cI, 8, .inl (fun _ => 0))), (mce, .inl (cJ, 1280, .inr (.inl (fun _ => 0)))), (mca, .inl (cJ, 160, .inr (.inl (fun _ => 0)))), (mwo, .inl (cI, 64, .inl fw_)), (mnu, .inl (cI, 10, .inl fn_)), (mte, .inl (cI, 3, .inl (fun _ => 0))), (mwa, .inl (cI, 130, .inl (fun _ => 0))), (mke, .inl (cI, 130, .inl (fun _ => 0))), (mma, .inl (cI, 3, .inl (fun _ => 0))), (mth, .inl (cI, 3, .inl (fun _ => 0))), (mtr, .inl (cI, 20, .inl (fun _ => 0)))] H := hP
    replace hD : va_D _ [(mki, .inl (cI, 8, .inl (fun _ => 0))), (mpa, .inl (cI, 8, .inl (fun _ => 0))), (mta, .inl (cI, 8, .inl (fun _ => 0))), (mla, .inl (cI, 40, .inl (fun _ => 0))), (msl, .inl (cI, 40, .inl (fun _ => 0))), (mhe, .inl (cI, 8, .inl (fun _ => 0))), (mso, .inl (cI, 8, .inl (fun _ => 0))), (msi, .inl (cI, 8, .inl (fun _ => 0))), (msh, .inl (cI, 8, .inl (fun _ => 0))), (mce, .inl (cJ, 1280, .inr (.inl (fun _ => 0)))), (mca, .inl (cJ, 160, .inr (.inl (fun _ => 0)))), (mwo, .inl (cI, 64, .inl fw_)), (mnu, .inl (cI, 10, .inl fn_)), (mte, .inl (cI, 3, .inl (fun _ => 0))), (mwa, .inl (cI, 130, .inl (fun _ => 0))), (mke, .inl (cI, 130, .inl (fun _ => 0))), (mma, .inl (cI, 3, .inl (fun _ => 0))), (mth, .inl (cI, 3, .inl (fun _ => 0))), (mtr, .inl (cI, 20, .inl (fun _ => 0)))] := hD
    rcases hr_1588 with ⟨rfl, g_1590⟩ | ⟨rfl, g_1591, g_1592⟩ | ⟨rfl, g_1593, g_1594, g_1595, g_1596⟩ | ⟨rfl, g_1597, g_1598, g_1599, g_1600, g_1601, g_1602, g_1603, g_1604⟩ | ⟨rfl, g_1605, g_1606, g_1607, g_1608, g_1609, g_1610, g_1611, g_1612⟩ | ⟨rfl, g_1613, g_1614, g_1615, g_1616, g_1617, g_1618, g_1619, g_1620, g_1621⟩ | ⟨rfl, g_1622, g_1623, g_1624, g_1625, g_1626, g_1627, g_1628, g_1629, g_1630, g_1631⟩ | ⟨rfl, g_1632, g_1633, g_1634, g_1635, g_1636, g_1637, g_1638, g_1639, g_1640, g_1641⟩ | ⟨rfl, g_1642, g_1643, g_1644, g_1645, g_1646, g_1647, g_1648, g_1649, g_1650, g_1651⟩ | ⟨rfl, g_1652, g_1653, g_1654, g_1655, g_1656, g_1657, g_1658, g_1659, g_1660, g_1661⟩ | ⟨rfl, g_1662, g_1663, g_1664, g_1665, g_1666, g_1667, g_1668, g_1669, g_1670⟩ | ⟨rfl, g_1671, g_1672, g_1673, g_1674, g_1675, g_1676, g_1677, g_1678, g_1679⟩ | ⟨rfl, g_1680, g_1681, g_1682, g_1683, g_1684, g_1685, g_1686, g_1687, g_1688⟩ | ⟨rfl, g_1689, g_1690, g_1691, g_1692, g_1693, g_1694, g_1695, g_1696, g_1697⟩ | ⟨rfl, g_1698, g_1699, g_1700, g_1701, g_1702, g_1703, g_1704⟩ | ⟨rfl, g_1705, g_1706, g_1707, g_1708, g_1709, g_1710, g_1711⟩ | ⟨rfl, g_1712, g_1713, g_1714, g_1715, g_1716, g_1717⟩ | ⟨rfl, g_1718, g_1719, g_1720, g_1721, g_1722, g_1723⟩ | ⟨rfl, g_1724, g_1725, g_1726, g_1727⟩ | ⟨rfl, g_1728, g_1729, g_1730, g_1731, g_1732⟩ | ⟨rfl, g_1733, g_1734, g_1735, g_1736, g_1737⟩
    · exfalso; omega
    · exfalso; omega
    · exfalso; omega
    · refine lv_icmp_eq (tgt := 1371) hx hb dL_law_711 (by decide) (fun c_1738 => ?_) (fun c_1738 => ?_)
      · refine lv_iinc (v := 6) (lv' := [(3, .int 6), (2, .ref m0), (1, .ref x0), (0, .ref b)]) hx hb dL_law_1371 hl (k := 0) rfl (by decide) (by decide) rfl (fun ls hl => ?_)
        refine lv_goto (tgt := 18) hx hb dL_law_1374 (by decide) ?_
        refine lv_iload_n hx hb dL_law_18 rfl (lv_at hl 0 rfl) ?_
        refine lv_aload_n hx hb dL_law_19 rfl (lv_at hl 3 rfl) ?_
        refine va_slen hx hb hX hbl hbA hS dL_law_20 ?_
        refine lv_topi (fun y_1739 ey_1739 => ?_)
        obtain rfl : y_1739 = 6 := ey_1739.trans (by decide)
        refine lv_bipush (v := 6) hx hb dL_law_21 (by decide) ?_
        refine lv_isub hx hb dL_law_23 ?_
        refine lv_topi (fun y_1740 ey_1740 => ?_)
        obtain rfl : y_1740 = 0 := ey_1740.trans (by decide)
        refine lv_icmp_gt (tgt := 1377) hx hb dL_law_24 (by decide) (fun c_1741 => ?_) (fun c_1741 => ?_)
        · refine lv_iconst (v := 1) hx hb dL_law_1377 (by decide) ?_
          refine va_forget (fun q hq => hS.2.2 q hq) ?_
          refine W.widen (k := 600000) (n := 7302250) (Nat.le_of_ble_eq_true rfl) (Nat.le_of_ble_eq_true rfl) ?_
          exact lw_ret hx hb hr hlocks dL_law_1378
        · exact absurd c_1741 (by decide)
      · exact absurd c_1738 (by decide)
    · exfalso; omega
    · exfalso; omega
    · exfalso; omega
    · exfalso; omega
    · exfalso; omega
    · exfalso; omega
    · exfalso; omega
    · exfalso; omega
    · exfalso; omega
    · exfalso; omega
    · exfalso; omega
    · exfalso; omega
    · exfalso; omega
    · exfalso; omega
    · exfalso; omega
    · exfalso; omega
    · exfalso; omega
  · refine lv_aload_n hx hb dL_law_697 rfl (lv_at hl 1 rfl) ?_
    refine lv_aload_n hx hb dL_law_698 rfl (lv_at hl 3 rfl) ?_
    refine lv_iload_n hx hb dL_law_699 rfl (lv_at hl 0 rfl) ?_
    refine lv_iconst (v := 1) hx hb dL_law_700 (by decide) ?_
    refine lv_iadd hx hb dL_law_701 ?_
    refine lv_topi (fun y_1742 ey_1742 => ?_)
    obtain rfl : y_1742 = 1 := ey_1742.trans (by decide)
    refine va_sld hx hb hX hbl hbA hS (zf_in (by decide) (by decide)) dL_law_702 ?_
    refine lv_topi (fun y_1743 ey_1743 => ?_)
    obtain rfl : a_3 = y_1743 := ea_3.trans ey_1743.symm
    refine lv_aload_n hx hb dL_law_703 rfl (lv_at hl 3 rfl) ?_
    refine lv_iload_n hx hb dL_law_704 rfl (lv_at hl 0 rfl) ?_
    refine lv_iconst (v := 2) hx hb dL_law_705 (by decide) ?_
    refine lv_iadd hx hb dL_law_706 ?_
    refine lv_topi (fun y_1744 ey_1744 => ?_)
    obtain rfl : y_1744 = 2 := ey_1744.trans (by decide)
    refine va_sld hx hb hX hbl hbA hS (zf_in (by decide) (by decide)) dL_law_707 ?_
    refine lv_topi (fun y_1745 ey_1745 => ?_)
    obtain rfl : a_6 = y_1745 := ea_6.trans ey_1745.symm
    skip
    refine zw_V (As := [.int a_3, .int a_6]) (rest := [.int 0]) (wr := [(mki, .inl (cI, 8, .inl (fun _ => 0))), (mpa, .inl (cI, 8, .inl (fun _ => 0))), (mta, .inl (cI, 8, .inl (fun _ => 0))), (mla, .inl (cI, 40, .inl (fun _ => 0))), (msl, .inl (cI, 40, .inl (fun _ => 0))), (mhe, .inl (cI, 8, .inl (fun _ => 0))), (mso, .inl (cI, 8, .inl (fun _ => 0))), (msi, .inl (cI, 8, .inl (fun _ => 0))), (msh, .inl (cI, 8, .inl (fun _ => 0))), (mce, .inl (cJ, 1280, .inr (.inl (fun _ => 0)))), (mca, .inl (cJ, 160, .inr (.inl (fun _ => 0)))), (mwo, .inl (cI, 64, .inl fw_)), (mnu, .inl (cI, 10, .inl fn_)), (mte, .inl (cI, 3, .inl (fun _ => 0))), (mwa, .inl (cI, 130, .inl (fun _ => 0))), (mke, .inl (cI, 130, .inl (fun _ => 0))), (mma, .inl (cI, 3, .inl (fun _ => 0))), (mth, .inl (cI, 3, .inl (fun _ => 0))), (mtr, .inl (cI, 20, .inl (fun _ => 0)))]) ⟨hx, hb, hml, hown, hts⟩ (c_M_ask l D cI cJ cZ cP cS m0 mrf mki mpa mta mla msl mco mhe mso msi msh mce mca mwo mnu mte mwa mke mma mth mtr (a_3) (a_6)  H.size) (cwV 2 hts gq_73 rfl rfl rfl (by decide +kernel) ⟨Nat.le_of_ble_eq_true rfl, Nat.le_of_ble_eq_true rfl⟩) hK hN (hZ.kept hS) hP hD hS hA [0, 1, 7] [2, 3, 4, 5, 6, 8, 9, 10, 11, 12, 13, 14, 15, 16, 17, 18, 19, 20, 21] rfl rfl (by decide) (by decide) (by decide) (va_recv hK hP (ci := 8) (q0 := 0) rfl rfl) rfl hl.1 rfl (Nat.le_of_ble_eq_true rfl) dL_law_708 ⟨Nat.le_of_ble_eq_true rfl, Nat.le_of_ble_eq_true rfl⟩ (fun r_1746 u_1747 H locs hr_1746 hP hD hS => ?_)
    replace hP : va_P D vwCl [(mki, .inl (cI, 8, .inl (fun _ => 0))), (mpa, .inl (cI, 8, .inl (fun _ => 0))), (mta, .inl (cI, 8, .inl (fun _ => 0))), (mla, .inl (cI, 40, .inl (fun _ => 0))), (msl, .inl (cI, 40, .inl (fun _ => 0))), (mhe, .inl (cI, 8, .inl (fun _ => 0))), (mso, .inl (cI, 8, .inl (fun _ => 0))), (msi, .inl (cI, 8, .inl (fun _ => 0))), (msh, .inl (cI, 8, .inl (fun _ => 0))), (mce, .inl (cJ, 1280, .inr (.inl (fun _ => 0)))), (mca, .inl (cJ, 160, .inr (.inl (fun _ => 0)))), (mwo, .inl (cI, 64, .inl fw_)), (mnu, .inl (cI, 10, .inl fn_)), (mte, .inl (cI, 3, .inl (fun _ => 0))), (mwa, .inl (cI, 130, .inl (fun _ => 0))), (mke, .inl (cI, 130, .inl (fun _ => 0))), (mma, .inl (cI, 3, .inl (fun _ => 0))), (mth, .inl (cI, 3, .inl (fun _ => 0))), (mtr, .inl (cI, 20, .inl (fun _ => 0)))] H := hP
    replace hD : va_D _ [(mki, .inl (cI, 8, .inl (fun _ => 0))), (mpa, .inl (cI, 8, .inl (fun _ => 0))), (mta, .inl (cI, 8, .inl (fun _ => 0))), (mla, .inl (cI, 40, .inl (fun _ => 0))), (msl, .inl (cI, 40, .inl (fun _ => 0))), (mhe, .inl (cI, 8, .inl (fun _ => 0))), (mso, .inl (cI, 8, .inl (fun _ => 0))), (msi, .inl (cI, 8, .inl (fun _ => 0))), (msh, .inl (cI, 8, .inl (fun _ => 0))), (mce, .inl (cJ, 1280, .inr (.inl (fun _ => 0)))), (mca, .inl (cJ, 160, .inr (.inl (fun _ => 0)))), (mwo, .inl (cI, 64, .inl fw_)), (mnu, .inl (cI, 10, .inl fn_)), (mte, .inl (cI, 3, .inl (fun _ => 0))), (mwa, .inl (cI, 130, .inl (fun _ => 0))), (mke, .inl (cI, 130, .inl (fun _ => 0))), (mma, .inl (cI, 3, .inl (fun _ => 0))), (mth, .inl (cI, 3, .inl (fun _ => 0))), (mtr, .inl (cI, 20, .inl (fun _ => 0)))] := hD
    rcases hr_1746 with ⟨rfl, g_1748⟩ | ⟨rfl, g_1749, g_1750⟩ | ⟨rfl, g_1751, g_1752, g_1753, g_1754⟩ | ⟨rfl, g_1755, g_1756, g_1757, g_1758, g_1759, g_1760, g_1761, g_1762⟩ | ⟨rfl, g_1763, g_1764, g_1765, g_1766, g_1767, g_1768, g_1769, g_1770⟩ | ⟨rfl, g_1771, g_1772, g_1773, g_1774, g_1775, g_1776, g_1777, g_1778, g_1779⟩ | ⟨rfl, g_1780, g_1781, g_1782, g_1783, g_1784, g_1785, g_1786, g_1787, g_1788, g_1789⟩ | ⟨rfl, g_1790, g_1791, g_1792, g_1793, g_1794, g_1795, g_1796, g_1797, g_1798, g_1799⟩ | ⟨rfl, g_1800, g_1801, g_1802, g_1803, g_1804, g_1805, g_1806, g_1807, g_1808, g_1809⟩ | ⟨rfl, g_1810, g_1811, g_1812, g_1813, g_1814, g_1815, g_1816, g_1817, g_1818, g_1819⟩ | ⟨rfl, g_1820, g_1821, g_1822, g_1823, g_1824, g_1825, g_1826, g_1827, g_1828⟩ | ⟨rfl, g_1829, g_1830, g_1831, g_1832, g_1833, g_1834, g_1835, g_1836, g_1837⟩ | ⟨rfl, g_1838, g_1839, g_1840, g_1841, g_1842, g_1843, g_1844, g_1845, g_1846⟩ | ⟨rfl, g_1847, g_1848, g_1849, g_1850, g_1851, g_1852, g_1853, g_1854, g_1855⟩ | ⟨rfl, g_1856, g_1857, g_1858, g_1859, g_1860, g_1861, g_1862⟩ | ⟨rfl, g_1863, g_1864, g_1865, g_1866, g_1867, g_1868, g_1869⟩ | ⟨rfl, g_1870, g_1871, g_1872, g_1873, g_1874, g_1875⟩ | ⟨rfl, g_1876, g_1877, g_1878, g_1879, g_1880, g_1881⟩ | ⟨rfl, g_1882, g_1883, g_1884, g_1885⟩ | ⟨rfl, g_1886, g_1887, g_1888, g_1889, g_1890⟩ | ⟨rfl, g_1891, g_1892, g_1893, g_1894, g_1895⟩
    · exfalso; omega
    · exfalso; omega
    · exfalso; omega
    · exfalso; omega
    · refine lv_icmp_eq (tgt := 1371) hx hb dL_law_711 (by decide) (fun c_1896 => ?_) (fun c_1896 => ?_)
      · refine lv_iinc (v := 6) (lv' := [(3, .int 6), (2, .ref m0), (1, .ref x0), (0, .ref b)]) hx hb dL_law_1371 hl (k := 0) rfl (by decide) (by decide) rfl (fun ls hl => ?_)
        refine lv_goto (tgt := 18) hx hb dL_law_1374 (by decide) ?_
        refine lv_iload_n hx hb dL_law_18 rfl (lv_at hl 0 rfl) ?_
        refine lv_aload_n hx hb dL_law_19 rfl (lv_at hl 3 rfl) ?_
        refine va_slen hx hb hX hbl hbA hS dL_law_20 ?_
        refine lv_topi (fun y_1897 ey_1897 => ?_)
        obtain rfl : y_1897 = 6 := ey_1897.trans (by decide)
        refine lv_bipush (v := 6) hx hb dL_law_21 (by decide) ?_
        refine lv_isub hx hb dL_law_23 ?_
        refine lv_topi (fun y_1898 ey_1898 => ?_)
        obtain rfl : y_1898 = 0 := ey_1898.trans (by decide)
        refine lv_icmp_gt (tgt := 1377) hx hb dL_law_24 (by decide) (fun c_1899 => ?_) (fun c_1899 => ?_)
        · refine lv_iconst (v := 1) hx hb dL_law_1377 (by decide) ?_
          refine va_forget (fun q hq => hS.2.2 q hq) ?_
          refine W.widen (k := 600000) (n := 7302250) (Nat.le_of_ble_eq_true rfl) (Nat.le_of_ble_eq_true rfl) ?_
          exact lw_ret hx hb hr hlocks dL_law_1378
        · exact absurd c_1899 (by decide)
      · exact absurd c_1896 (by decide)
    · exfalso; omega
    · exfalso; omega
    · exfalso; omega
    · exfalso; omega
    · exfalso; omega
    · exfalso; omega
    · exfalso; omega
    · exfalso; omega
    · exfalso; omega
    · exfalso; omega
    · exfalso; omega
    · exfalso; omega
    · exfalso; omega
    · exfalso; omega
    · exfalso; omega
    · exfalso; omega
  · refine lv_aload_n hx hb dL_law_697 rfl (lv_at hl 1 rfl) ?_
    refine lv_aload_n hx hb dL_law_698 rfl (lv_at hl 3 rfl) ?_
    refine lv_iload_n hx hb dL_law_699 rfl (lv_at hl 0 rfl) ?_
    refine lv_iconst (v := 1) hx hb dL_law_700 (by decide) ?_
    refine lv_iadd hx hb dL_law_701 ?_
    refine lv_topi (fun y_1900 ey_1900 => ?_)
    obtain rfl : y_1900 = 1 := ey_1900.trans (by decide)
    refine va_sld hx hb hX hbl hbA hS (zf_in (by decide) (by decide)) dL_law_702 ?_
    refine lv_topi (fun y_1901 ey_1901 => ?_)
    obtain rfl : a_3 = y_1901 := ea_3.trans ey_1901.symm
    refine lv_aload_n hx hb dL_law_703 rfl (lv_at hl 3 rfl) ?_
    refine lv_iload_n hx hb dL_law_704 rfl (lv_at hl 0 rfl) ?_
    refine lv_iconst (v := 2) hx hb dL_law_705 (by decide) ?_
    refine lv_iadd hx hb dL_law_706 ?_
    refine lv_topi (fun y_1902 ey_1902 => ?_)
    obtain rfl : y_1902 = 2 := ey_1902.trans (by decide)
    refine va_sld hx hb hX hbl hbA hS (zf_in (by decide) (by decide)) dL_law_707 ?_
    refine lv_topi (fun y_1903 ey_1903 => ?_)
    obtain rfl : a_6 = y_1903 := ea_6.trans ey_1903.symm
    skip
    refine zw_V (As := [.int a_3, .int a_6]) (rest := [.int (-6)]) (wr := [(mki, .inl (cI, 8, .inl (fun _ => 0))), (mpa, .inl (cI, 8, .inl (fun _ => 0))), (mta, .inl (cI, 8, .inl (fun _ => 0))), (mla, .inl (cI, 40, .inl (fun _ => 0))), (msl, .inl (cI, 40, .inl (fun _ => 0))), (mhe, .inl (cI, 8, .inl (fun _ => 0))), (mso, .inl (cI, 8, .inl (fun _ => 0))), (msi, .inl (cI, 8, .inl (fun _ => 0))), (msh, .inl (cI, 8, .inl (fun _ => 0))), (mce, .inl (cJ, 1280, .inr (.inl (fun _ => 0)))), (mca, .inl (cJ, 160, .inr (.inl (fun _ => 0)))), (mwo, .inl (cI, 64, .inl fw_)), (mnu, .inl (cI, 10, .inl fn_)), (mte, .inl (cI, 3, .inl (fun _ => 0))), (mwa, .inl (cI, 130, .inl (fun _ => 0))), (mke, .inl (cI, 130, .inl (fun _ => 0))), (mma, .inl (cI, 3, .inl (fun _ => 0))), (mth, .inl (cI, 3, .inl (fun _ => 0))), (mtr, .inl (cI, 20, .inl (fun _ => 0)))]) ⟨hx, hb, hml, hown, hts⟩ (c_M_ask l D cI cJ cZ cP cS m0 mrf mki mpa mta mla msl mco mhe mso msi msh mce mca mwo mnu mte mwa mke mma mth mtr (a_3) (a_6)  H.size) (cwV 2 hts gq_73 rfl rfl rfl (by decide +kernel) ⟨Nat.le_of_ble_eq_true rfl, Nat.le_of_ble_eq_true rfl⟩) hK hN (hZ.kept hS) hP hD hS hA [0, 1, 7] [2, 3, 4, 5, 6, 8, 9, 10, 11, 12, 13, 14, 15, 16, 17, 18, 19, 20, 21] rfl rfl (by decide) (by decide) (by decide) (va_recv hK hP (ci := 8) (q0 := 0) rfl rfl) rfl hl.1 rfl (Nat.le_of_ble_eq_true rfl) dL_law_708 ⟨Nat.le_of_ble_eq_true rfl, Nat.le_of_ble_eq_true rfl⟩ (fun r_1904 u_1905 H locs hr_1904 hP hD hS => ?_)
    replace hP : va_P D vwCl [(mki, .inl (cI, 8, .inl (fun _ => 0))), (mpa, .inl (cI, 8, .inl (fun _ => 0))), (mta, .inl (cI, 8, .inl (fun _ => 0))), (mla, .inl (cI, 40, .inl (fun _ => 0))), (msl, .inl (cI, 40, .inl (fun _ => 0))), (mhe, .inl (cI, 8, .inl (fun _ => 0))), (mso, .inl (cI, 8, .inl (fun _ => 0))), (msi, .inl (cI, 8, .inl (fun _ => 0))), (msh, .inl (cI, 8, .inl (fun _ => 0))), (mce, .inl (cJ, 1280, .inr (.inl (fun _ => 0)))), (mca, .inl (cJ, 160, .inr (.inl (fun _ => 0)))), (mwo, .inl (cI, 64, .inl fw_)), (mnu, .inl (cI, 10, .inl fn_)), (mte, .inl (cI, 3, .inl (fun _ => 0))), (mwa, .inl (cI, 130, .inl (fun _ => 0))), (mke, .inl (cI, 130, .inl (fun _ => 0))), (mma, .inl (cI, 3, .inl (fun _ => 0))), (mth, .inl (cI, 3, .inl (fun _ => 0))), (mtr, .inl (cI, 20, .inl (fun _ => 0)))] H := hP
    replace hD : va_D _ [(mki, .inl (cI, 8, .inl (fun _ => 0))), (mpa, .inl (cI, 8, .inl (fun _ => 0))), (mta, .inl (cI, 8, .inl (fun _ => 0))), (mla, .inl (cI, 40, .inl (fun _ => 0))), (msl, .inl (cI, 40, .inl (fun _ => 0))), (mhe, .inl (cI, 8, .inl (fun _ => 0))), (mso, .inl (cI, 8, .inl (fun _ => 0))), (msi, .inl (cI, 8, .inl (fun _ => 0))), (msh, .inl (cI, 8, .inl (fun _ => 0))), (mce, .inl (cJ, 1280, .inr (.inl (fun _ => 0)))), (mca, .inl (cJ, 160, .inr (.inl (fun _ => 0)))), (mwo, .inl (cI, 64, .inl fw_)), (mnu, .inl (cI, 10, .inl fn_)), (mte, .inl (cI, 3, .inl (fun _ => 0))), (mwa, .inl (cI, 130, .inl (fun _ => 0))), (mke, .inl (cI, 130, .inl (fun _ => 0))), (mma, .inl (cI, 3, .inl (fun _ => 0))), (mth, .inl (cI, 3, .inl (fun _ => 0))), (mtr, .inl (cI, 20, .inl (fun _ => 0)))] := hD
    rcases hr_1904 with ⟨rfl, g_1906⟩ | ⟨rfl, g_1907, g_1908⟩ | ⟨rfl, g_1909, g_1910, g_1911, g_1912⟩ | ⟨rfl, g_1913, g_1914, g_1915, g_1916, g_1917, g_1918, g_1919, g_1920⟩ | ⟨rfl, g_1921, g_1922, g_1923, g_1924, g_1925, g_1926, g_1927, g_1928⟩ | ⟨rfl, g_1929, g_1930, g_1931, g_1932, g_1933, g_1934, g_1935, g_1936, g_1937⟩ | ⟨rfl, g_1938, g_1939, g_1940, g_1941, g_1942, g_1943, g_1944, g_1945, g_1946, g_1947⟩ | ⟨rfl, g_1948, g_1949, g_1950, g_1951, g_1952, g_1953, g_1954, g_1955, g_1956, g_1957⟩ | ⟨rfl, g_1958, g_1959, g_1960, g_1961, g_1962, g_1963, g_1964, g_1965, g_1966, g_1967⟩ | ⟨rfl, g_1968, g_1969, g_1970, g_1971, g_1972, g_1973, g_1974, g_1975, g_1976, g_1977⟩ | ⟨rfl, g_1978, g_1979, g_1980, g_1981, g_1982, g_1983, g_1984, g_1985, g_1986⟩ | ⟨rfl, g_1987, g_1988, g_1989, g_1990, g_1991, g_1992, g_1993, g_1994, g_1995⟩ | ⟨rfl, g_1996, g_1997, g_1998, g_1999, g_2000, g_2001, g_2002, g_2003, g_2004⟩ | ⟨rfl, g_2005, g_2006, g_2007, g_2008, g_2009, g_2010, g_2011, g_2012, g_2013⟩ | ⟨rfl, g_2014, g_2015, g_2016, g_2017, g_2018, g_2019, g_2020⟩ | ⟨rfl, g_2021, g_2022, g_2023, g_2024, g_2025, g_2026, g_2027⟩ | ⟨rfl, g_2028, g_2029, g_2030, g_2031, g_2032, g_2033⟩ | ⟨rfl, g_2034, g_2035, g_2036, g_2037, g_2038, g_2039⟩ | ⟨rfl, g_2040, g_2041, g_2042, g_2043⟩ | ⟨rfl, g_2044, g_2045, g_2046, g_2047, g_2048⟩ | ⟨rfl, g_2049, g_2050, g_2051, g_2052, g_2053⟩
    · exfalso; omega
    · exfalso; omega
    · exfalso; omega
    · exfalso; omega
    · exfalso; omega
    · exfalso; omega
    · exfalso; omega
    · exfalso; omega
    · exfalso; omega
    · exfalso; omega
    · exfalso; omega
    · exfalso; omega
    · exfalso; omega
    · exfalso; omega
    · exfalso; omega
    · exfalso; omega
    · exfalso; omega
    · exfalso; omega
    · refine lv_icmp_eq (tgt := 1371) hx hb dL_law_711 (by decide) (fun c_2054 => ?_) (fun c_2054 => ?_)
      · refine lv_iinc (v := 6) (lv' := [(3, .int 6), (2, .ref m0), (1, .ref x0), (0, .ref b)]) hx hb dL_law_1371 hl (k := 0) rfl (by decide) (by decide) rfl (fun ls hl => ?_)
        refine lv_goto (tgt := 18) hx hb dL_law_1374 (by decide) ?_
        refine lv_iload_n hx hb dL_law_18 rfl (lv_at hl 0 rfl) ?_
        refine lv_aload_n hx hb dL_law_19 rfl (lv_at hl 3 rfl) ?_
        refine va_slen hx hb hX hbl hbA hS dL_law_20 ?_
        refine lv_topi (fun y_2055 ey_2055 => ?_)
        obtain rfl : y_2055 = 6 := ey_2055.trans (by decide)
        refine lv_bipush (v := 6) hx hb dL_law_21 (by decide) ?_
        refine lv_isub hx hb dL_law_23 ?_
        refine lv_topi (fun y_2056 ey_2056 => ?_)
        obtain rfl : y_2056 = 0 := ey_2056.trans (by decide)
        refine lv_icmp_gt (tgt := 1377) hx hb dL_law_24 (by decide) (fun c_2057 => ?_) (fun c_2057 => ?_)
        · refine lv_iconst (v := 1) hx hb dL_law_1377 (by decide) ?_
          refine va_forget (fun q hq => hS.2.2 q hq) ?_
          refine W.widen (k := 600000) (n := 7302250) (Nat.le_of_ble_eq_true rfl) (Nat.le_of_ble_eq_true rfl) ?_
          exact lw_ret hx hb hr hlocks dL_law_1378
        · exact absurd c_2057 (by decide)
      · exact absurd c_2054 (by decide)
    · exfalso; omega
    · exfalso; omega
  · refine lv_aload_n hx hb dL_law_697 rfl (lv_at hl 1 rfl) ?_
    refine lv_aload_n hx hb dL_law_698 rfl (lv_at hl 3 rfl) ?_
    refine lv_iload_n hx hb dL_law_699 rfl (lv_at hl 0 rfl) ?_
    refine lv_iconst (v := 1) hx hb dL_law_700 (by decide) ?_
    refine lv_iadd hx hb dL_law_701 ?_
    refine lv_topi (fun y_2058 ey_2058 => ?_)
    obtain rfl : y_2058 = 1 := ey_2058.trans (by decide)
    refine va_sld hx hb hX hbl hbA hS (zf_in (by decide) (by decide)) dL_law_702 ?_
    refine lv_topi (fun y_2059 ey_2059 => ?_)
    obtain rfl : a_3 = y_2059 := ea_3.trans ey_2059.symm
    refine lv_aload_n hx hb dL_law_703 rfl (lv_at hl 3 rfl) ?_
    refine lv_iload_n hx hb dL_law_704 rfl (lv_at hl 0 rfl) ?_
    refine lv_iconst (v := 2) hx hb dL_law_705 (by decide) ?_
    refine lv_iadd hx hb dL_law_706 ?_
    refine lv_topi (fun y_2060 ey_2060 => ?_)
    obtain rfl : y_2060 = 2 := ey_2060.trans (by decide)
    refine va_sld hx hb hX hbl hbA hS (zf_in (by decide) (by decide)) dL_law_707 ?_
    refine lv_topi (fun y_2061 ey_2061 => ?_)
    obtain rfl : a_6 = y_2061 := ea_6.trans ey_2061.symm
    skip
    refine zw_V (As := [.int a_3, .int a_6]) (rest := [.int (-6)]) (wr := [(mki, .inl (cI, 8, .inl (fun _ => 0))), (mpa, .inl (cI, 8, .inl (fun _ => 0))), (mta, .inl (cI, 8, .inl (fun _ => 0))), (mla, .inl (cI, 40, .inl (fun _ => 0))), (msl, .inl (cI, 40, .inl (fun _ => 0))), (mhe, .inl (cI, 8, .inl (fun _ => 0))), (mso, .inl (cI, 8, .inl (fun _ => 0))), (msi, .inl (cI, 8, .inl (fun _ => 0))), (msh, .inl (cI, 8, .inl (fun _ => 0))), (mce, .inl (cJ, 1280, .inr (.inl (fun _ => 0)))), (mca, .inl (cJ, 160, .inr (.inl (fun _ => 0)))), (mwo, .inl (cI, 64, .inl fw_)), (mnu, .inl (cI, 10, .inl fn_)), (mte, .inl (cI, 3, .inl (fun _ => 0))), (mwa, .inl (cI, 130, .inl (fun _ => 0))), (mke, .inl (cI, 130, .inl (fun _ => 0))), (mma, .inl (cI, 3, .inl (fun _ => 0))), (mth, .inl (cI, 3, .inl (fun _ => 0))), (mtr, .inl (cI, 20, .inl (fun _ => 0)))]) ⟨hx, hb, hml, hown, hts⟩ (c_M_ask l D cI cJ cZ cP cS m0 mrf mki mpa mta mla msl mco mhe mso msi msh mce mca mwo mnu mte mwa mke mma mth mtr (a_3) (a_6)  H.size) (cwV 2 hts gq_73 rfl rfl rfl (by decide +kernel) ⟨Nat.le_of_ble_eq_true rfl, Nat.le_of_ble_eq_true rfl⟩) hK hN (hZ.kept hS) hP hD hS hA [0, 1, 7] [2, 3, 4, 5, 6, 8, 9, 10, 11, 12, 13, 14, 15, 16, 17, 18, 19, 20, 21] rfl rfl (by decide) (by decide) (by decide) (va_recv hK hP (ci := 8) (q0 := 0) rfl rfl) rfl hl.1 rfl (Nat.le_of_ble_eq_true rfl) dL_law_708 ⟨Nat.le_of_ble_eq_true rfl, Nat.le_of_ble_eq_true rfl⟩ (fun r_2062 u_2063 H locs hr_2062 hP hD hS => ?_)
    replace hP : va_P D vwCl [(mki, .inl (cI, 8, .inl (fun _ => 0))), (mpa, .inl (cI, 8, .inl (fun _ => 0))), (mta, .inl (cI, 8, .inl (fun _ => 0))), (mla, .inl (cI, 40, .inl (fun _ => 0))), (msl, .inl (cI, 40, .inl (fun _ => 0))), (mhe, .inl (cI, 8, .inl (fun _ => 0))), (mso, .inl (cI, 8, .inl (fun _ => 0))), (msi, .inl (cI, 8, .inl (fun _ => 0))), (msh, .inl (cI, 8, .inl (fun _ => 0))), (mce, .inl (cJ, 1280, .inr (.inl (fun _ => 0)))), (mca, .inl (cJ, 160, .inr (.inl (fun _ => 0)))), (mwo, .inl (cI, 64, .inl fw_)), (mnu, .inl (cI, 10, .inl fn_)), (mte, .inl (cI, 3, .inl (fun _ => 0))), (mwa, .inl (cI, 130, .inl (fun _ => 0))), (mke, .inl (cI, 130, .inl (fun _ => 0))), (mma, .inl (cI, 3, .inl (fun _ => 0))), (mth, .inl (cI, 3, .inl (fun _ => 0))), (mtr, .inl (cI, 20, .inl (fun _ => 0)))] H := hP
    replace hD : va_D _ [(mki, .inl (cI, 8, .inl (fun _ => 0))), (mpa, .inl (cI, 8, .inl (fun _ => 0))), (mta, .inl (cI, 8, .inl (fun _ => 0))), (mla, .inl (cI, 40, .inl (fun _ => 0))), (msl, .inl (cI, 40, .inl (fun _ => 0))), (mhe, .inl (cI, 8, .inl (fun _ => 0))), (mso, .inl (cI, 8, .inl (fun _ => 0))), (msi, .inl (cI, 8, .inl (fun _ => 0))), (msh, .inl (cI, 8, .inl (fun _ => 0))), (mce, .inl (cJ, 1280, .inr (.inl (fun _ => 0)))), (mca, .inl (cJ, 160, .inr (.inl (fun _ => 0)))), (mwo, .inl (cI, 64, .inl fw_)), (mnu, .inl (cI, 10, .inl fn_)), (mte, .inl (cI, 3, .inl (fun _ => 0))), (mwa, .inl (cI, 130, .inl (fun _ => 0))), (mke, .inl (cI, 130, .inl (fun _ => 0))), (mma, .inl (cI, 3, .inl (fun _ => 0))), (mth, .inl (cI, 3, .inl (fun _ => 0))), (mtr, .inl (cI, 20, .inl (fun _ => 0)))] := hD
    rcases hr_2062 with ⟨rfl, g_2064⟩ | ⟨rfl, g_2065, g_2066⟩ | ⟨rfl, g_2067, g_2068, g_2069, g_2070⟩ | ⟨rfl, g_2071, g_2072, g_2073, g_2074, g_2075, g_2076, g_2077, g_2078⟩ | ⟨rfl, g_2079, g_2080, g_2081, g_2082, g_2083, g_2084, g_2085, g_2086⟩ | ⟨rfl, g_2087, g_2088, g_2089, g_2090, g_2091, g_2092, g_2093, g_2094, g_2095⟩ | ⟨rfl, g_2096, g_2097, g_2098, g_2099, g_2100, g_2101, g_2102, g_2103, g_2104, g_2105⟩ | ⟨rfl, g_2106, g_2107, g_2108, g_2109, g_2110, g_2111, g_2112, g_2113, g_2114, g_2115⟩ | ⟨rfl, g_2116, g_2117, g_2118, g_2119, g_2120, g_2121, g_2122, g_2123, g_2124, g_2125⟩ | ⟨rfl, g_2126, g_2127, g_2128, g_2129, g_2130, g_2131, g_2132, g_2133, g_2134, g_2135⟩ | ⟨rfl, g_2136, g_2137, g_2138, g_2139, g_2140, g_2141, g_2142, g_2143, g_2144⟩ | ⟨rfl, g_2145, g_2146, g_2147, g_2148, g_2149, g_2150, g_2151, g_2152, g_2153⟩ | ⟨rfl, g_2154, g_2155, g_2156, g_2157, g_2158, g_2159, g_2160, g_2161, g_2162⟩ | ⟨rfl, g_2163, g_2164, g_2165, g_2166, g_2167, g_2168, g_2169, g_2170, g_2171⟩ | ⟨rfl, g_2172, g_2173, g_2174, g_2175, g_2176, g_2177, g_2178⟩ | ⟨rfl, g_2179, g_2180, g_2181, g_2182, g_2183, g_2184, g_2185⟩ | ⟨rfl, g_2186, g_2187, g_2188, g_2189, g_2190, g_2191⟩ | ⟨rfl, g_2192, g_2193, g_2194, g_2195, g_2196, g_2197⟩ | ⟨rfl, g_2198, g_2199, g_2200, g_2201⟩ | ⟨rfl, g_2202, g_2203, g_2204, g_2205, g_2206⟩ | ⟨rfl, g_2207, g_2208, g_2209, g_2210, g_2211⟩
    · exfalso; omega
    · exfalso; omega
    · exfalso; omega
    · exfalso; omega
    · exfalso; omega
    · exfalso; omega
    · exfalso; omega
    · exfalso; omega
    · exfalso; omega
    · exfalso; omega
    · exfalso; omega
    · exfalso; omega
    · exfalso; omega
    · exfalso; omega
    · exfalso; omega
    · exfalso; omega
    · exfalso; omega
    · exfalso; omega
    · exfalso; omega
    · refine lv_icmp_eq (tgt := 1371) hx hb dL_law_711 (by decide) (fun c_2212 => ?_) (fun c_2212 => ?_)
      · refine lv_iinc (v := 6) (lv' := [(3, .int 6), (2, .ref m0), (1, .ref x0), (0, .ref b)]) hx hb dL_law_1371 hl (k := 0) rfl (by decide) (by decide) rfl (fun ls hl => ?_)
        refine lv_goto (tgt := 18) hx hb dL_law_1374 (by decide) ?_
        refine lv_iload_n hx hb dL_law_18 rfl (lv_at hl 0 rfl) ?_
        refine lv_aload_n hx hb dL_law_19 rfl (lv_at hl 3 rfl) ?_
        refine va_slen hx hb hX hbl hbA hS dL_law_20 ?_
        refine lv_topi (fun y_2213 ey_2213 => ?_)
        obtain rfl : y_2213 = 6 := ey_2213.trans (by decide)
        refine lv_bipush (v := 6) hx hb dL_law_21 (by decide) ?_
        refine lv_isub hx hb dL_law_23 ?_
        refine lv_topi (fun y_2214 ey_2214 => ?_)
        obtain rfl : y_2214 = 0 := ey_2214.trans (by decide)
        refine lv_icmp_gt (tgt := 1377) hx hb dL_law_24 (by decide) (fun c_2215 => ?_) (fun c_2215 => ?_)
        · refine lv_iconst (v := 1) hx hb dL_law_1377 (by decide) ?_
          refine va_forget (fun q hq => hS.2.2 q hq) ?_
          refine W.widen (k := 600000) (n := 7302250) (Nat.le_of_ble_eq_true rfl) (Nat.le_of_ble_eq_true rfl) ?_
          exact lw_ret hx hb hr hlocks dL_law_1378
        · exact absurd c_2215 (by decide)
      · exact absurd c_2212 (by decide)
    · exfalso; omega
  · refine lv_aload_n hx hb dL_law_697 rfl (lv_at hl 1 rfl) ?_
    refine lv_aload_n hx hb dL_law_698 rfl (lv_at hl 3 rfl) ?_
    refine lv_iload_n hx hb dL_law_699 rfl (lv_at hl 0 rfl) ?_
    refine lv_iconst (v := 1) hx hb dL_law_700 (by decide) ?_
    refine lv_iadd hx hb dL_law_701 ?_
    refine lv_topi (fun y_2216 ey_2216 => ?_)
    obtain rfl : y_2216 = 1 := ey_2216.trans (by decide)
    refine va_sld hx hb hX hbl hbA hS (zf_in (by decide) (by decide)) dL_law_702 ?_
    refine lv_topi (fun y_2217 ey_2217 => ?_)
    obtain rfl : a_3 = y_2217 := ea_3.trans ey_2217.symm
    refine lv_aload_n hx hb dL_law_703 rfl (lv_at hl 3 rfl) ?_
    refine lv_iload_n hx hb dL_law_704 rfl (lv_at hl 0 rfl) ?_
    refine lv_iconst (v := 2) hx hb dL_law_705 (by decide) ?_
    refine lv_iadd hx hb dL_law_706 ?_
    refine lv_topi (fun y_2218 ey_2218 => ?_)
    obtain rfl : y_2218 = 2 := ey_2218.trans (by decide)
    refine va_sld hx hb hX hbl hbA hS (zf_in (by decide) (by decide)) dL_law_707 ?_
    refine lv_topi (fun y_2219 ey_2219 => ?_)
    obtain rfl : a_6 = y_2219 := ea_6.trans ey_2219.symm
    skip
    refine zw_V (As := [.int a_3, .int a_6]) (rest := [.int 3]) (wr := [(mki, .inl (cI, 8, .inl (fun _ => 0))), (mpa, .inl (cI, 8, .inl (fun _ => 0))), (mta, .inl (cI, 8, .inl (fun _ => 0))), (mla, .inl (cI, 40, .inl (fun _ => 0))), (msl, .inl (cI, 40, .inl (fun _ => 0))), (mhe, .inl (cI, 8, .inl (fun _ => 0))), (mso, .inl (cI, 8, .inl (fun _ => 0))), (msi, .inl (cI, 8, .inl (fun _ => 0))), (msh, .inl (cI, 8, .inl (fun _ => 0))), (mce, .inl (cJ, 1280, .inr (.inl (fun _ => 0)))), (mca, .inl (cJ, 160, .inr (.inl (fun _ => 0)))), (mwo, .inl (cI, 64, .inl fw_)), (mnu, .inl (cI, 10, .inl fn_)), (mte, .inl (cI, 3, .inl (fun _ => 0))), (mwa, .inl (cI, 130, .inl (fun _ => 0))), (mke, .inl (cI, 130, .inl (fun _ => 0))), (mma, .inl (cI, 3, .inl (fun _ => 0))), (mth, .inl (cI, 3, .inl (fun _ => 0))), (mtr, .inl (cI, 20, .inl (fun _ => 0)))]) ⟨hx, hb, hml, hown, hts⟩ (c_M_ask l D cI cJ cZ cP cS m0 mrf mki mpa mta mla msl mco mhe mso msi msh mce mca mwo mnu mte mwa mke mma mth mtr (a_3) (a_6)  H.size) (cwV 2 hts gq_73 rfl rfl rfl (by decide +kernel) ⟨Nat.le_of_ble_eq_true rfl, Nat.le_of_ble_eq_true rfl⟩) hK hN (hZ.kept hS) hP hD hS hA [0, 1, 7] [2, 3, 4, 5, 6, 8, 9, 10, 11, 12, 13, 14, 15, 16, 17, 18, 19, 20, 21] rfl rfl (by decide) (by decide) (by decide) (va_recv hK hP (ci := 8) (q0 := 0) rfl rfl) rfl hl.1 rfl (Nat.le_of_ble_eq_true rfl) dL_law_708 ⟨Nat.le_of_ble_eq_true rfl, Nat.le_of_ble_eq_true rfl⟩ (fun r_2220 u_2221 H locs hr_2220 hP hD hS => ?_)
    replace hP : va_P D vwCl [(mki, .inl (cI, 8, .inl (fun _ => 0))), (mpa, .inl (cI, 8, .inl (fun _ => 0))), (mta, .inl (cI, 8, .inl (fun _ => 0))), (mla, .inl (cI, 40, .inl (fun _ => 0))), (msl, .inl (cI, 40, .inl (fun _ => 0))), (mhe, .inl (cI, 8, .inl (fun _ => 0))), (mso, .inl (cI, 8, .inl (fun _ => 0))), (msi, .inl (cI, 8, .inl (fun _ => 0))), (msh, .inl (cI, 8, .inl (fun _ => 0))), (mce, .inl (cJ, 1280, .inr (.inl (fun _ => 0)))), (mca, .inl (cJ, 160, .inr (.inl (fun _ => 0)))), (mwo, .inl (cI, 64, .inl fw_)), (mnu, .inl (cI, 10, .inl fn_)), (mte, .inl (cI, 3, .inl (fun _ => 0))), (mwa, .inl (cI, 130, .inl (fun _ => 0))), (mke, .inl (cI, 130, .inl (fun _ => 0))), (mma, .inl (cI, 3, .inl (fun _ => 0))), (mth, .inl (cI, 3, .inl (fun _ => 0))), (mtr, .inl (cI, 20, .inl (fun _ => 0)))] H := hP
    replace hD : va_D _ [(mki, .inl (cI, 8, .inl (fun _ => 0))), (mpa, .inl (cI, 8, .inl (fun _ => 0))), (mta, .inl (cI, 8, .inl (fun _ => 0))), (mla, .inl (cI, 40, .inl (fun _ => 0))), (msl, .inl (cI, 40, .inl (fun _ => 0))), (mhe, .inl (cI, 8, .inl (fun _ => 0))), (mso, .inl (cI, 8, .inl (fun _ => 0))), (msi, .inl (cI, 8, .inl (fun _ => 0))), (msh, .inl (cI, 8, .inl (fun _ => 0))), (mce, .inl (cJ, 1280, .inr (.inl (fun _ => 0)))), (mca, .inl (cJ, 160, .inr (.inl (fun _ => 0)))), (mwo, .inl (cI, 64, .inl fw_)), (mnu, .inl (cI, 10, .inl fn_)), (mte, .inl (cI, 3, .inl (fun _ => 0))), (mwa, .inl (cI, 130, .inl (fun _ => 0))), (mke, .inl (cI, 130, .inl (fun _ => 0))), (mma, .inl (cI, 3, .inl (fun _ => 0))), (mth, .inl (cI, 3, .inl (fun _ => 0))), (mtr, .inl (cI, 20, .inl (fun _ => 0)))] := hD
    rcases hr_2220 with ⟨rfl, g_2222⟩ | ⟨rfl, g_2223, g_2224⟩ | ⟨rfl, g_2225, g_2226, g_2227, g_2228⟩ | ⟨rfl, g_2229, g_2230, g_2231, g_2232, g_2233, g_2234, g_2235, g_2236⟩ | ⟨rfl, g_2237, g_2238, g_2239, g_2240, g_2241, g_2242, g_2243, g_2244⟩ | ⟨rfl, g_2245, g_2246, g_2247, g_2248, g_2249, g_2250, g_2251, g_2252, g_2253⟩ | ⟨rfl, g_2254, g_2255, g_2256, g_2257, g_2258, g_2259, g_2260, g_2261, g_2262, g_2263⟩ | ⟨rfl, g_2264, g_2265, g_2266, g_2267, g_2268, g_2269, g_2270, g_2271, g_2272, g_2273⟩ | ⟨rfl, g_2274, g_2275, g_2276, g_2277, g_2278, g_2279, g_2280, g_2281, g_2282, g_2283⟩ | ⟨rfl, g_2284, g_2285, g_2286, g_2287, g_2288, g_2289, g_2290, g_2291, g_2292, g_2293⟩ | ⟨rfl, g_2294, g_2295, g_2296, g_2297, g_2298, g_2299, g_2300, g_2301, g_2302⟩ | ⟨rfl, g_2303, g_2304, g_2305, g_2306, g_2307, g_2308, g_2309, g_2310, g_2311⟩ | ⟨rfl, g_2312, g_2313, g_2314, g_2315, g_2316, g_2317, g_2318, g_2319, g_2320⟩ | ⟨rfl, g_2321, g_2322, g_2323, g_2324, g_2325, g_2326, g_2327, g_2328, g_2329⟩ | ⟨rfl, g_2330, g_2331, g_2332, g_2333, g_2334, g_2335, g_2336⟩ | ⟨rfl, g_2337, g_2338, g_2339, g_2340, g_2341, g_2342, g_2343⟩ | ⟨rfl, g_2344, g_2345, g_2346, g_2347, g_2348, g_2349⟩ | ⟨rfl, g_2350, g_2351, g_2352, g_2353, g_2354, g_2355⟩ | ⟨rfl, g_2356, g_2357, g_2358, g_2359⟩ | ⟨rfl, g_2360, g_2361, g_2362, g_2363, g_2364⟩ | ⟨rfl, g_2365, g_2366, g_2367, g_2368, g_2369⟩
    · exfalso; omega
    · exfalso; omega
    · exfalso; omega
    · exfalso; omega
    · exfalso; omega
    · exfalso; omega
    · exfalso; omega
    · exfalso; omega
    · exfalso; omega
    · exfalso; omega
    · exfalso; omega
    · exfalso; omega
    · exfalso; omega
    · exfalso; omega
    · exfalso; omega
    · exfalso; omega
    · exfalso; omega
    · exfalso; omega
    · refine lv_icmp_eq (tgt := 1371) hx hb dL_law_711 (by decide) (fun c_2370 => ?_) (fun c_2370 => ?_)
      · exact absurd c_2370 (by decide)
      · refine lv_iconst (v := 0) hx hb dL_law_714 (by decide) ?_
        exfalso; omega
    · exfalso; omega
    · refine lv_icmp_eq (tgt := 1371) hx hb dL_law_711 (by decide) (fun c_2371 => ?_) (fun c_2371 => ?_)
      · refine lv_iinc (v := 6) (lv' := [(3, .int 6), (2, .ref m0), (1, .ref x0), (0, .ref b)]) hx hb dL_law_1371 hl (k := 0) rfl (by decide) (by decide) rfl (fun ls hl => ?_)
        refine lv_goto (tgt := 18) hx hb dL_law_1374 (by decide) ?_
        refine lv_iload_n hx hb dL_law_18 rfl (lv_at hl 0 rfl) ?_
        refine lv_aload_n hx hb dL_law_19 rfl (lv_at hl 3 rfl) ?_
        refine va_slen hx hb hX hbl hbA hS dL_law_20 ?_
        refine lv_topi (fun y_2372 ey_2372 => ?_)
        obtain rfl : y_2372 = 6 := ey_2372.trans (by decide)
        refine lv_bipush (v := 6) hx hb dL_law_21 (by decide) ?_
        refine lv_isub hx hb dL_law_23 ?_
        refine lv_topi (fun y_2373 ey_2373 => ?_)
        obtain rfl : y_2373 = 0 := ey_2373.trans (by decide)
        refine lv_icmp_gt (tgt := 1377) hx hb dL_law_24 (by decide) (fun c_2374 => ?_) (fun c_2374 => ?_)
        · refine lv_iconst (v := 1) hx hb dL_law_1377 (by decide) ?_
          refine va_forget (fun q hq => hS.2.2 q hq) ?_
          refine W.widen (k := 600000) (n := 7302250) (Nat.le_of_ble_eq_true rfl) (Nat.le_of_ble_eq_true rfl) ?_
          exact lw_ret hx hb hr hlocks dL_law_1378
        · exact absurd c_2374 (by decide)
      · exact absurd c_2371 (by decide)
  · refine lv_aload_n hx hb dL_law_697 rfl (lv_at hl 1 rfl) ?_
    refine lv_aload_n hx hb dL_law_698 rfl (lv_at hl 3 rfl) ?_
    refine lv_iload_n hx hb dL_law_699 rfl (lv_at hl 0 rfl) ?_
    refine lv_iconst (v := 1) hx hb dL_law_700 (by decide) ?_
    refine lv_iadd hx hb dL_law_701 ?_
    refine lv_topi (fun y_2375 ey_2375 => ?_)
    obtain rfl : y_2375 = 1 := ey_2375.trans (by decide)
    refine va_sld hx hb hX hbl hbA hS (zf_in (by decide) (by decide)) dL_law_702 ?_
    refine lv_topi (fun y_2376 ey_2376 => ?_)
    obtain rfl : a_3 = y_2376 := ea_3.trans ey_2376.symm
    refine lv_aload_n hx hb dL_law_703 rfl (lv_at hl 3 rfl) ?_
    refine lv_iload_n hx hb dL_law_704 rfl (lv_at hl 0 rfl) ?_
    refine lv_iconst (v := 2) hx hb dL_law_705 (by decide) ?_
    refine lv_iadd hx hb dL_law_706 ?_
    refine lv_topi (fun y_2377 ey_2377 => ?_)
    obtain rfl : y_2377 = 2 := ey_2377.trans (by decide)
    refine va_sld hx hb hX hbl hbA hS (zf_in (by decide) (by decide)) dL_law_707 ?_
    refine lv_topi (fun y_2378 ey_2378 => ?_)
    obtain rfl : a_6 = y_2378 := ea_6.trans ey_2378.symm
    skip
    refine zw_V (As := [.int a_3, .int a_6]) (rest := [.int (-6)]) (wr := [(mki, .inl (cI, 8, .inl (fun _ => 0))), (mpa, .inl (cI, 8, .inl (fun _ => 0))), (mta, .inl (cI, 8, .inl (fun _ => 0))), (mla, .inl (cI, 40, .inl (fun _ => 0))), (msl, .inl (cI, 40, .inl (fun _ => 0))), (mhe, .inl (cI, 8, .inl (fun _ => 0))), (mso, .inl (cI, 8, .inl (fun _ => 0))), (msi, .inl (cI, 8, .inl (fun _ => 0))), (msh, .inl (cI, 8, .inl (fun _ => 0))), (mce, .inl (cJ, 1280, .inr (.inl (fun _ => 0)))), (mca, .inl (cJ, 160, .inr (.inl (fun _ => 0)))), (mwo, .inl (cI, 64, .inl fw_)), (mnu, .inl (cI, 10, .inl fn_)), (mte, .inl (cI, 3, .inl (fun _ => 0))), (mwa, .inl (cI, 130, .inl (fun _ => 0))), (mke, .inl (cI, 130, .inl (fun _ => 0))), (mma, .inl (cI, 3, .inl (fun _ => 0))), (mth, .inl (cI, 3, .inl (fun _ => 0))), (mtr, .inl (cI, 20, .inl (fun _ => 0)))]) ⟨hx, hb, hml, hown, hts⟩ (c_M_ask l D cI cJ cZ cP cS m0 mrf mki mpa mta mla msl mco mhe mso msi msh mce mca mwo mnu mte mwa mke mma mth mtr (a_3) (a_6)  H.size) (cwV 2 hts gq_73 rfl rfl rfl (by decide +kernel) ⟨Nat.le_of_ble_eq_true rfl, Nat.le_of_ble_eq_true rfl⟩) hK hN (hZ.kept hS) hP hD hS hA [0, 1, 7] [2, 3, 4, 5, 6, 8, 9, 10, 11, 12, 13, 14, 15, 16, 17, 18, 19, 20, 21] rfl rfl (by decide) (by decide) (by decide) (va_recv hK hP (ci := 8) (q0 := 0) rfl rfl) rfl hl.1 rfl (Nat.le_of_ble_eq_true rfl) dL_law_708 ⟨Nat.le_of_ble_eq_true rfl, Nat.le_of_ble_eq_true rfl⟩ (fun r_2379 u_2380 H locs hr_2379 hP hD hS => ?_)
    replace hP : va_P D vwCl [(mki, .inl (cI, 8, .inl (fun _ => 0))), (mpa, .inl (cI, 8, .inl (fun _ => 0))), (mta, .inl (cI, 8, .inl (fun _ => 0))), (mla, .inl (cI, 40, .inl (fun _ => 0))), (msl, .inl (cI, 40, .inl (fun _ => 0))), (mhe, .inl (cI, 8, .inl (fun _ => 0))), (mso, .inl (cI, 8, .inl (fun _ => 0))), (msi, .inl (cI, 8, .inl (fun _ => 0))), (msh, .inl (cI, 8, .inl (fun _ => 0))), (mce, .inl (cJ, 1280, .inr (.inl (fun _ => 0)))), (mca, .inl (cJ, 160, .inr (.inl (fun _ => 0)))), (mwo, .inl (cI, 64, .inl fw_)), (mnu, .inl (cI, 10, .inl fn_)), (mte, .inl (cI, 3, .inl (fun _ => 0))), (mwa, .inl (cI, 130, .inl (fun _ => 0))), (mke, .inl (cI, 130, .inl (fun _ => 0))), (mma, .inl (cI, 3, .inl (fun _ => 0))), (mth, .inl (cI, 3, .inl (fun _ => 0))), (mtr, .inl (cI, 20, .inl (fun _ => 0)))] H := hP
    replace hD : va_D _ [(mki, .inl (cI, 8, .inl (fun _ => 0))), (mpa, .inl (cI, 8, .inl (fun _ => 0))), (mta, .inl (cI, 8, .inl (fun _ => 0))), (mla, .inl (cI, 40, .inl (fun _ => 0))), (msl, .inl (cI, 40, .inl (fun _ => 0))), (mhe, .inl (cI, 8, .inl (fun _ => 0))), (mso, .inl (cI, 8, .inl (fun _ => 0))), (msi, .inl (cI, 8, .inl (fun _ => 0))), (msh, .inl (cI, 8, .inl (fun _ => 0))), (mce, .inl (cJ, 1280, .inr (.inl (fun _ => 0)))), (mca, .inl (cJ, 160, .inr (.inl (fun _ => 0)))), (mwo, .inl (cI, 64, .inl fw_)), (mnu, .inl (cI, 10, .inl fn_)), (mte, .inl (cI, 3, .inl (fun _ => 0))), (mwa, .inl (cI, 130, .inl (fun _ => 0))), (mke, .inl (cI, 130, .inl (fun _ => 0))), (mma, .inl (cI, 3, .inl (fun _ => 0))), (mth, .inl (cI, 3, .inl (fun _ => 0))), (mtr, .inl (cI, 20, .inl (fun _ => 0)))] := hD
    rcases hr_2379 with ⟨rfl, g_2381⟩ | ⟨rfl, g_2382, g_2383⟩ | ⟨rfl, g_2384, g_2385, g_2386, g_2387⟩ | ⟨rfl, g_2388, g_2389, g_2390, g_2391, g_2392, g_2393, g_2394, g_2395⟩ | ⟨rfl, g_2396, g_2397, g_2398, g_2399, g_2400, g_2401, g_2402, g_2403⟩ | ⟨rfl, g_2404, g_2405, g_2406, g_2407, g_2408, g_2409, g_2410, g_2411, g_2412⟩ | ⟨rfl, g_2413, g_2414, g_2415, g_2416, g_2417, g_2418, g_2419, g_2420, g_2421, g_2422⟩ | ⟨rfl, g_2423, g_2424, g_2425, g_2426, g_2427, g_2428, g_2429, g_2430, g_2431, g_2432⟩ | ⟨rfl, g_2433, g_2434, g_2435, g_2436, g_2437, g_2438, g_2439, g_2440, g_2441, g_2442⟩ | ⟨rfl, g_2443, g_2444, g_2445, g_2446, g_2447, g_2448, g_2449, g_2450, g_2451, g_2452⟩ | ⟨rfl, g_2453, g_2454, g_2455, g_2456, g_2457, g_2458, g_2459, g_2460, g_2461⟩ | ⟨rfl, g_2462, g_2463, g_2464, g_2465, g_2466, g_2467, g_2468, g_2469, g_2470⟩ | ⟨rfl, g_2471, g_2472, g_2473, g_2474, g_2475, g_2476, g_2477, g_2478, g_2479⟩ | ⟨rfl, g_2480, g_2481, g_2482, g_2483, g_2484, g_2485, g_2486, g_2487, g_2488⟩ | ⟨rfl, g_2489, g_2490, g_2491, g_2492, g_2493, g_2494, g_2495⟩ | ⟨rfl, g_2496, g_2497, g_2498, g_2499, g_2500, g_2501, g_2502⟩ | ⟨rfl, g_2503, g_2504, g_2505, g_2506, g_2507, g_2508⟩ | ⟨rfl, g_2509, g_2510, g_2511, g_2512, g_2513, g_2514⟩ | ⟨rfl, g_2515, g_2516, g_2517, g_2518⟩ | ⟨rfl, g_2519, g_2520, g_2521, g_2522, g_2523⟩ | ⟨rfl, g_2524, g_2525, g_2526, g_2527, g_2528⟩
    · exfalso; omega
    · exfalso; omega
    · refine lv_icmp_eq (tgt := 1371) hx hb dL_law_711 (by decide) (fun c_2529 => ?_) (fun c_2529 => ?_)
      · refine lv_iinc (v := 6) (lv' := [(3, .int 6), (2, .ref m0), (1, .ref x0), (0, .ref b)]) hx hb dL_law_1371 hl (k := 0) rfl (by decide) (by decide) rfl (fun ls hl => ?_)
        refine lv_goto (tgt := 18) hx hb dL_law_1374 (by decide) ?_
        refine lv_iload_n hx hb dL_law_18 rfl (lv_at hl 0 rfl) ?_
        refine lv_aload_n hx hb dL_law_19 rfl (lv_at hl 3 rfl) ?_
        refine va_slen hx hb hX hbl hbA hS dL_law_20 ?_
        refine lv_topi (fun y_2530 ey_2530 => ?_)
        obtain rfl : y_2530 = 6 := ey_2530.trans (by decide)
        refine lv_bipush (v := 6) hx hb dL_law_21 (by decide) ?_
        refine lv_isub hx hb dL_law_23 ?_
        refine lv_topi (fun y_2531 ey_2531 => ?_)
        obtain rfl : y_2531 = 0 := ey_2531.trans (by decide)
        refine lv_icmp_gt (tgt := 1377) hx hb dL_law_24 (by decide) (fun c_2532 => ?_) (fun c_2532 => ?_)
        · refine lv_iconst (v := 1) hx hb dL_law_1377 (by decide) ?_
          refine va_forget (fun q hq => hS.2.2 q hq) ?_
          refine W.widen (k := 600000) (n := 7302250) (Nat.le_of_ble_eq_true rfl) (Nat.le_of_ble_eq_true rfl) ?_
          exact lw_ret hx hb hr hlocks dL_law_1378
        · exact absurd c_2532 (by decide)
      · exact absurd c_2529 (by decide)
    · exfalso; omega
    · exfalso; omega
    · exfalso; omega
    · exfalso; omega
    · exfalso; omega
    · exfalso; omega
    · exfalso; omega
    · exfalso; omega
    · exfalso; omega
    · exfalso; omega
    · exfalso; omega
    · exfalso; omega
    · exfalso; omega
    · exfalso; omega
    · exfalso; omega
    · exfalso; omega
    · exfalso; omega
    · exfalso; omega
  · refine lv_aload_n hx hb dL_law_697 rfl (lv_at hl 1 rfl) ?_
    refine lv_aload_n hx hb dL_law_698 rfl (lv_at hl 3 rfl) ?_
    refine lv_iload_n hx hb dL_law_699 rfl (lv_at hl 0 rfl) ?_
    refine lv_iconst (v := 1) hx hb dL_law_700 (by decide) ?_
    refine lv_iadd hx hb dL_law_701 ?_
    refine lv_topi (fun y_2533 ey_2533 => ?_)
    obtain rfl : y_2533 = 1 := ey_2533.trans (by decide)
    refine va_sld hx hb hX hbl hbA hS (zf_in (by decide) (by decide)) dL_law_702 ?_
    refine lv_topi (fun y_2534 ey_2534 => ?_)
    obtain rfl : a_3 = y_2534 := ea_3.trans ey_2534.symm
    refine lv_aload_n hx hb dL_law_703 rfl (lv_at hl 3 rfl) ?_
    refine lv_iload_n hx hb dL_law_704 rfl (lv_at hl 0 rfl) ?_
    refine lv_iconst (v := 2) hx hb dL_law_705 (by decide) ?_
    refine lv_iadd hx hb dL_law_706 ?_
    refine lv_topi (fun y_2535 ey_2535 => ?_)
    obtain rfl : y_2535 = 2 := ey_2535.trans (by decide)
    refine va_sld hx hb hX hbl hbA hS (zf_in (by decide) (by decide)) dL_law_707 ?_
    refine lv_topi (fun y_2536 ey_2536 => ?_)
    obtain rfl : a_6 = y_2536 := ea_6.trans ey_2536.symm
    skip
    refine zw_V (As := [.int a_3, .int a_6]) (rest := [.int (-6)]) (wr := [(mki, .inl (cI, 8, .inl (fun _ => 0))), (mpa, .inl (cI, 8, .inl (fun _ => 0))), (mta, .inl (cI, 8, .inl (fun _ => 0))), (mla, .inl (cI, 40, .inl (fun _ => 0))), (msl, .inl (cI, 40, .inl (fun _ => 0))), (mhe, .inl (cI, 8, .inl (fun _ => 0))), (mso, .inl (cI, 8, .inl (fun _ => 0))), (msi, .inl (cI, 8, .inl (fun _ => 0))), (msh, .inl (cI, 8, .inl (fun _ => 0))), (mce, .inl (cJ, 1280, .inr (.inl (fun _ => 0)))), (mca, .inl (cJ, 160, .inr (.inl (fun _ => 0)))), (mwo, .inl (cI, 64, .inl fw_)), (mnu, .inl (cI, 10, .inl fn_)), (mte, .inl (cI, 3, .inl (fun _ => 0))), (mwa, .inl (cI, 130, .inl (fun _ => 0))), (mke, .inl (cI, 130, .inl (fun _ => 0))), (mma, .inl (cI, 3, .inl (fun _ => 0))), (mth, .inl (cI, 3, .inl (fun _ => 0))), (mtr, .inl (cI, 20, .inl (fun _ => 0)))]) ⟨hx, hb, hml, hown, hts⟩ (c_M_ask l D cI cJ cZ cP cS m0 mrf mki mpa mta mla msl mco mhe mso msi msh mce mca mwo mnu mte mwa mke mma mth mtr (a_3) (a_6)  H.size) (cwV 2 hts gq_73 rfl rfl rfl (by decide +kernel) ⟨Nat.le_of_ble_eq_true rfl, Nat.le_of_ble_eq_true rfl⟩) hK hN (hZ.kept hS) hP hD hS hA [0, 1, 7] [2, 3, 4, 5, 6, 8, 9, 10, 11, 12, 13, 14, 15, 16, 17, 18, 19, 20, 21] rfl rfl (by decide) (by decide) (by decide) (va_recv hK hP (ci := 8) (q0 := 0) rfl rfl) rfl hl.1 rfl (Nat.le_of_ble_eq_true rfl) dL_law_708 ⟨Nat.le_of_ble_eq_true rfl, Nat.le_of_ble_eq_true rfl⟩ (fun r_2537 u_2538 H locs hr_2537 hP hD hS => ?_)
    replace hP : va_P D vwCl [(mki, .inl (cI, 8, .inl (fun _ => 0))), (mpa, .inl (cI, 8, .inl (fun _ => 0))), (mta, .inl (cI, 8, .inl (fun _ => 0))), (mla, .inl (cI, 40, .inl (fun _ => 0))), (msl, .inl (cI, 40, .inl (fun _ => 0))), (mhe, .inl (cI, 8, .inl (fun _ => 0))), (mso, .inl (cI, 8, .inl (fun _ => 0))), (msi, .inl (cI, 8, .inl (fun _ => 0))), (msh, .inl (cI, 8, .inl (fun _ => 0))), (mce, .inl (cJ, 1280, .inr (.inl (fun _ => 0)))), (mca, .inl (cJ, 160, .inr (.inl (fun _ => 0)))), (mwo, .inl (cI, 64, .inl fw_)), (mnu, .inl (cI, 10, .inl fn_)), (mte, .inl (cI, 3, .inl (fun _ => 0))), (mwa, .inl (cI, 130, .inl (fun _ => 0))), (mke, .inl (cI, 130, .inl (fun _ => 0))), (mma, .inl (cI, 3, .inl (fun _ => 0))), (mth, .inl (cI, 3, .inl (fun _ => 0))), (mtr, .inl (cI, 20, .inl (fun _ => 0)))] H := hP
    replace hD : va_D _ [(mki, .inl (cI, 8, .inl (fun _ => 0))), (mpa, .inl (cI, 8, .inl (fun _ => 0))), (mta, .inl (cI, 8, .inl (fun _ => 0))), (mla, .inl (cI, 40, .inl (fun _ => 0))), (msl, .inl (cI, 40, .inl (fun _ => 0))), (mhe, .inl (cI, 8, .inl (fun _ => 0))), (mso, .inl (cI, 8, .inl (fun _ => 0))), (msi, .inl (cI, 8, .inl (fun _ => 0))), (msh, .inl (cI, 8, .inl (fun _ => 0))), (mce, .inl (cJ, 1280, .inr (.inl (fun _ => 0)))), (mca, .inl (cJ, 160, .inr (.inl (fun _ => 0)))), (mwo, .inl (cI, 64, .inl fw_)), (mnu, .inl (cI, 10, .inl fn_)), (mte, .inl (cI, 3, .inl (fun _ => 0))), (mwa, .inl (cI, 130, .inl (fun _ => 0))), (mke, .inl (cI, 130, .inl (fun _ => 0))), (mma, .inl (cI, 3, .inl (fun _ => 0))), (mth, .inl (cI, 3, .inl (fun _ => 0))), (mtr, .inl (cI, 20, .inl (fun _ => 0)))] := hD
    rcases hr_2537 with ⟨rfl, g_2539⟩ | ⟨rfl, g_2540, g_2541⟩ | ⟨rfl, g_2542, g_2543, g_2544, g_2545⟩ | ⟨rfl, g_2546, g_2547, g_2548, g_2549, g_2550, g_2551, g_2552, g_2553⟩ | ⟨rfl, g_2554, g_2555, g_2556, g_2557, g_2558, g_2559, g_2560, g_2561⟩ | ⟨rfl, g_2562, g_2563, g_2564, g_2565, g_2566, g_2567, g_2568, g_2569, g_2570⟩ | ⟨rfl, g_2571, g_2572, g_2573, g_2574, g_2575, g_2576, g_2577, g_2578, g_2579, g_2580⟩ | ⟨rfl, g_2581, g_2582, g_2583, g_2584, g_2585, g_2586, g_2587, g_2588, g_2589, g_2590⟩ | ⟨rfl, g_2591, g_2592, g_2593, g_2594, g_2595, g_2596, g_2597, g_2598, g_2599, g_2600⟩ | ⟨rfl, g_2601, g_2602, g_2603, g_2604, g_2605, g_2606, g_2607, g_2608, g_2609, g_2610⟩ | ⟨rfl, g_2611, g_2612, g_2613, g_2614, g_2615, g_2616, g_2617, g_2618, g_2619⟩ | ⟨rfl, g_2620, g_2621, g_2622, g_2623, g_2624, g_2625, g_2626, g_2627, g_2628⟩ | ⟨rfl, g_2629, g_2630, g_2631, g_2632, g_2633, g_2634, g_2635, g_2636, g_2637⟩ | ⟨rfl, g_2638, g_2639, g_2640, g_2641, g_2642, g_2643, g_2644, g_2645, g_2646⟩ | ⟨rfl, g_2647, g_2648, g_2649, g_2650, g_2651, g_2652, g_2653⟩ | ⟨rfl, g_2654, g_2655, g_2656, g_2657, g_2658, g_2659, g_2660⟩ | ⟨rfl, g_2661, g_2662, g_2663, g_2664, g_2665, g_2666⟩ | ⟨rfl, g_2667, g_2668, g_2669, g_2670, g_2671, g_2672⟩ | ⟨rfl, g_2673, g_2674, g_2675, g_2676⟩ | ⟨rfl, g_2677, g_2678, g_2679, g_2680, g_2681⟩ | ⟨rfl, g_2682, g_2683, g_2684, g_2685, g_2686⟩
    · exfalso; omega
    · exfalso; omega
    · exfalso; omega
    · exfalso; omega
    · exfalso; omega
    · refine lv_icmp_eq (tgt := 1371) hx hb dL_law_711 (by decide) (fun c_2687 => ?_) (fun c_2687 => ?_)
      · refine lv_iinc (v := 6) (lv' := [(3, .int 6), (2, .ref m0), (1, .ref x0), (0, .ref b)]) hx hb dL_law_1371 hl (k := 0) rfl (by decide) (by decide) rfl (fun ls hl => ?_)
        refine lv_goto (tgt := 18) hx hb dL_law_1374 (by decide) ?_
        refine lv_iload_n hx hb dL_law_18 rfl (lv_at hl 0 rfl) ?_
        refine lv_aload_n hx hb dL_law_19 rfl (lv_at hl 3 rfl) ?_
        refine va_slen hx hb hX hbl hbA hS dL_law_20 ?_
        refine lv_topi (fun y_2688 ey_2688 => ?_)
        obtain rfl : y_2688 = 6 := ey_2688.trans (by decide)
        refine lv_bipush (v := 6) hx hb dL_law_21 (by decide) ?_
        refine lv_isub hx hb dL_law_23 ?_
        refine lv_topi (fun y_2689 ey_2689 => ?_)
        obtain rfl : y_2689 = 0 := ey_2689.trans (by decide)
        refine lv_icmp_gt (tgt := 1377) hx hb dL_law_24 (by decide) (fun c_2690 => ?_) (fun c_2690 => ?_)
        · refine lv_iconst (v := 1) hx hb dL_law_1377 (by decide) ?_
          refine va_forget (fun q hq => hS.2.2 q hq) ?_
          refine W.widen (k := 600000) (n := 7302250) (Nat.le_of_ble_eq_true rfl) (Nat.le_of_ble_eq_true rfl) ?_
          exact lw_ret hx hb hr hlocks dL_law_1378
        · exact absurd c_2690 (by decide)
      · exact absurd c_2687 (by decide)
    · exfalso; omega
    · exfalso; omega
    · exfalso; omega
    · exfalso; omega
    · exfalso; omega
    · exfalso; omega
    · exfalso; omega
    · exfalso; omega
    · exfalso; omega
    · exfalso; omega
    · exfalso; omega
    · exfalso; omega
    · exfalso; omega
    · exfalso; omega
    · exfalso; omega
  · refine lv_aload_n hx hb dL_law_697 rfl (lv_at hl 1 rfl) ?_
    refine lv_aload_n hx hb dL_law_698 rfl (lv_at hl 3 rfl) ?_
    refine lv_iload_n hx hb dL_law_699 rfl (lv_at hl 0 rfl) ?_
    refine lv_iconst (v := 1) hx hb dL_law_700 (by decide) ?_
    refine lv_iadd hx hb dL_law_701 ?_
    refine lv_topi (fun y_2691 ey_2691 => ?_)
    obtain rfl : y_2691 = 1 := ey_2691.trans (by decide)
    refine va_sld hx hb hX hbl hbA hS (zf_in (by decide) (by decide)) dL_law_702 ?_
    refine lv_topi (fun y_2692 ey_2692 => ?_)
    obtain rfl : a_3 = y_2692 := ea_3.trans ey_2692.symm
    refine lv_aload_n hx hb dL_law_703 rfl (lv_at hl 3 rfl) ?_
    refine lv_iload_n hx hb dL_law_704 rfl (lv_at hl 0 rfl) ?_
    refine lv_iconst (v := 2) hx hb dL_law_705 (by decide) ?_
    refine lv_iadd hx hb dL_law_706 ?_
    refine lv_topi (fun y_2693 ey_2693 => ?_)
    obtain rfl : y_2693 = 2 := ey_2693.trans (by decide)
    refine va_sld hx hb hX hbl hbA hS (zf_in (by decide) (by decide)) dL_law_707 ?_
    refine lv_topi (fun y_2694 ey_2694 => ?_)
    obtain rfl : a_6 = y_2694 := ea_6.trans ey_2694.symm
    skip
    refine zw_V (As := [.int a_3, .int a_6]) (rest := [.int 5]) (wr := [(mki, .inl (cI, 8, .inl (fun _ => 0))), (mpa, .inl (cI, 8, .inl (fun _ => 0))), (mta, .inl (cI, 8, .inl (fun _ => 0))), (mla, .inl (cI, 40, .inl (fun _ => 0))), (msl, .inl (cI, 40, .inl (fun _ => 0))), (mhe, .inl (cI, 8, .inl (fun _ => 0))), (mso, .inl (cI, 8, .inl (fun _ => 0))), (msi, .inl (cI, 8, .inl (fun _ => 0))), (msh, .inl (cI, 8, .inl (fun _ => 0))), (mce, .inl (cJ, 1280, .inr (.inl (fun _ => 0)))), (mca, .inl (cJ, 160, .inr (.inl (fun _ => 0)))), (mwo, .inl (cI, 64, .inl fw_)), (mnu, .inl (cI, 10, .inl fn_)), (mte, .inl (cI, 3, .inl (fun _ => 0))), (mwa, .inl (cI, 130, .inl (fun _ => 0))), (mke, .inl (cI, 130, .inl (fun _ => 0))), (mma, .inl (cI, 3, .inl (fun _ => 0))), (mth, .inl (cI, 3, .inl (fun _ => 0))), (mtr, .inl (cI, 20, .inl (fun _ => 0)))]) ⟨hx, hb, hml, hown, hts⟩ (c_M_ask l D cI cJ cZ cP cS m0 mrf mki mpa mta mla msl mco mhe mso msi msh mce mca mwo mnu mte mwa mke mma mth mtr (a_3) (a_6)  H.size) (cwV 2 hts gq_73 rfl rfl rfl (by decide +kernel) ⟨Nat.le_of_ble_eq_true rfl, Nat.le_of_ble_eq_true rfl⟩) hK hN (hZ.kept hS) hP hD hS hA [0, 1, 7] [2, 3, 4, 5, 6, 8, 9, 10, 11, 12, 13, 14, 15, 16, 17, 18, 19, 20, 21] rfl rfl (by decide) (by decide) (by decide) (va_recv hK hP (ci := 8) (q0 := 0) rfl rfl) rfl hl.1 rfl (Nat.le_of_ble_eq_true rfl) dL_law_708 ⟨Nat.le_of_ble_eq_true rfl, Nat.le_of_ble_eq_true rfl⟩ (fun r_2695 u_2696 H locs hr_2695 hP hD hS => ?_)
    replace hP : va_P D vwCl [(mki, .inl (cI, 8, .inl (fun _ => 0))), (mpa, .inl (cI, 8, .inl (fun _ => 0))), (mta, .inl (cI, 8, .inl (fun _ => 0))), (mla, .inl (cI, 40, .inl (fun _ => 0))), (msl, .inl (cI, 40, .inl (fun _ => 0))), (mhe, .inl (cI, 8, .inl (fun _ => 0))), (mso, .inl (cI, 8, .inl (fun _ => 0))), (msi, .inl (cI, 8, .inl (fun _ => 0))), (msh, .inl (cI, 8, .inl (fun _ => 0))), (mce, .inl (cJ, 1280, .inr (.inl (fun _ => 0)))), (mca, .inl (cJ, 160, .inr (.inl (fun _ => 0)))), (mwo, .inl (cI, 64, .inl fw_)), (mnu, .inl (cI, 10, .inl fn_)), (mte, .inl (cI, 3, .inl (fun _ => 0))), (mwa, .inl (cI, 130, .inl (fun _ => 0))), (mke, .inl (cI, 130, .inl (fun _ => 0))), (mma, .inl (cI, 3, .inl (fun _ => 0))), (mth, .inl (cI, 3, .inl (fun _ => 0))), (mtr, .inl (cI, 20, .inl (fun _ => 0)))] H := hP
    replace hD : va_D _ [(mki, .inl (cI, 8, .inl (fun _ => 0))), (mpa, .inl (cI, 8, .inl (fun _ => 0))), (mta, .inl (cI, 8, .inl (fun _ => 0))), (mla, .inl (cI, 40, .inl (fun _ => 0))), (msl, .inl (cI, 40, .inl (fun _ => 0))), (mhe, .inl (cI, 8, .inl (fun _ => 0))), (mso, .inl (cI, 8, .inl (fun _ => 0))), (msi, .inl (cI, 8, .inl (fun _ => 0))), (msh, .inl (cI, 8, .inl (fun _ => 0))), (mce, .inl (cJ, 1280, .inr (.inl (fun _ => 0)))), (mca, .inl (cJ, 160, .inr (.inl (fun _ => 0)))), (mwo, .inl (cI, 64, .inl fw_)), (mnu, .inl (cI, 10, .inl fn_)), (mte, .inl (cI, 3, .inl (fun _ => 0))), (mwa, .inl (cI, 130, .inl (fun _ => 0))), (mke, .inl (cI, 130, .inl (fun _ => 0))), (mma, .inl (cI, 3, .inl (fun _ => 0))), (mth, .inl (cI, 3, .inl (fun _ => 0))), (mtr, .inl (cI, 20, .inl (fun _ => 0)))] := hD
    rcases hr_2695 with ⟨rfl, g_2697⟩ | ⟨rfl, g_2698, g_2699⟩ | ⟨rfl, g_2700, g_2701, g_2702, g_2703⟩ | ⟨rfl, g_2704, g_2705, g_2706, g_2707, g_2708, g_2709, g_2710, g_2711⟩ | ⟨rfl, g_2712, g_2713, g_2714, g_2715, g_2716, g_2717, g_2718, g_2719⟩ | ⟨rfl, g_2720, g_2721, g_2722, g_2723, g_2724, g_2725, g_2726, g_2727, g_2728⟩ | ⟨rfl, g_2729, g_2730, g_2731, g_2732, g_2733, g_2734, g_2735, g_2736, g_2737, g_2738⟩ | ⟨rfl, g_2739, g_2740, g_2741, g_2742, g_2743, g_2744, g_2745, g_2746, g_2747, g_2748⟩ | ⟨rfl, g_2749, g_2750, g_2751, g_2752, g_2753, g_2754, g_2755, g_2756, g_2757, g_2758⟩ | ⟨rfl, g_2759, g_2760, g_2761, g_2762, g_2763, g_2764, g_2765, g_2766, g_2767, g_2768⟩ | ⟨rfl, g_2769, g_2770, g_2771, g_2772, g_2773, g_2774, g_2775, g_2776, g_2777⟩ | ⟨rfl, g_2778, g_2779, g_2780, g_2781, g_2782, g_2783, g_2784, g_2785, g_2786⟩ | ⟨rfl, g_2787, g_2788, g_2789, g_2790, g_2791, g_2792, g_2793, g_2794, g_2795⟩ | ⟨rfl, g_2796, g_2797, g_2798, g_2799, g_2800, g_2801, g_2802, g_2803, g_2804⟩ | ⟨rfl, g_2805, g_2806, g_2807, g_2808, g_2809, g_2810, g_2811⟩ | ⟨rfl, g_2812, g_2813, g_2814, g_2815, g_2816, g_2817, g_2818⟩ | ⟨rfl, g_2819, g_2820, g_2821, g_2822, g_2823, g_2824⟩ | ⟨rfl, g_2825, g_2826, g_2827, g_2828, g_2829, g_2830⟩ | ⟨rfl, g_2831, g_2832, g_2833, g_2834⟩ | ⟨rfl, g_2835, g_2836, g_2837, g_2838, g_2839⟩ | ⟨rfl, g_2840, g_2841, g_2842, g_2843, g_2844⟩
    · exfalso; omega
    · exfalso; omega
    · exfalso; omega
    · exfalso; omega
    · exfalso; omega
    · exfalso; omega
    · exfalso; omega
    · refine lv_icmp_eq (tgt := 1371) hx hb dL_law_711 (by decide) (fun c_2845 => ?_) (fun c_2845 => ?_)
      · refine lv_iinc (v := 6) (lv' := [(3, .int 6), (2, .ref m0), (1, .ref x0), (0, .ref b)]) hx hb dL_law_1371 hl (k := 0) rfl (by decide) (by decide) rfl (fun ls hl => ?_)
        refine lv_goto (tgt := 18) hx hb dL_law_1374 (by decide) ?_
        refine lv_iload_n hx hb dL_law_18 rfl (lv_at hl 0 rfl) ?_
        refine lv_aload_n hx hb dL_law_19 rfl (lv_at hl 3 rfl) ?_
        refine va_slen hx hb hX hbl hbA hS dL_law_20 ?_
        refine lv_topi (fun y_2846 ey_2846 => ?_)
        obtain rfl : y_2846 = 6 := ey_2846.trans (by decide)
        refine lv_bipush (v := 6) hx hb dL_law_21 (by decide) ?_
        refine lv_isub hx hb dL_law_23 ?_
        refine lv_topi (fun y_2847 ey_2847 => ?_)
        obtain rfl : y_2847 = 0 := ey_2847.trans (by decide)
        refine lv_icmp_gt (tgt := 1377) hx hb dL_law_24 (by decide) (fun c_2848 => ?_) (fun c_2848 => ?_)
        · refine lv_iconst (v := 1) hx hb dL_law_1377 (by decide) ?_
          refine va_forget (fun q hq => hS.2.2 q hq) ?_
          refine W.widen (k := 600000) (n := 7302250) (Nat.le_of_ble_eq_true rfl) (Nat.le_of_ble_eq_true rfl) ?_
          exact lw_ret hx hb hr hlocks dL_law_1378
        · exact absurd c_2848 (by decide)
      · exact absurd c_2845 (by decide)
    · exfalso; omega
    · exfalso; omega
    · exfalso; omega
    · exfalso; omega
    · exfalso; omega
    · exfalso; omega
    · exfalso; omega
    · exfalso; omega
    · exfalso; omega
    · exfalso; omega
    · exfalso; omega
    · exfalso; omega
    · exfalso; omega
  · refine lv_aload_n hx hb dL_law_697 rfl (lv_at hl 1 rfl) ?_
    refine lv_aload_n hx hb dL_law_698 rfl (lv_at hl 3 rfl) ?_
    refine lv_iload_n hx hb dL_law_699 rfl (lv_at hl 0 rfl) ?_
    refine lv_iconst (v := 1) hx hb dL_law_700 (by decide) ?_
    refine lv_iadd hx hb dL_law_701 ?_
    refine lv_topi (fun y_2849 ey_2849 => ?_)
    obtain rfl : y_2849 = 1 := ey_2849.trans (by decide)
    refine va_sld hx hb hX hbl hbA hS (zf_in (by decide) (by decide)) dL_law_702 ?_
    refine lv_topi (fun y_2850 ey_2850 => ?_)
    obtain rfl : a_3 = y_2850 := ea_3.trans ey_2850.symm
    refine lv_aload_n hx hb dL_law_703 rfl (lv_at hl 3 rfl) ?_
    refine lv_iload_n hx hb dL_law_704 rfl (lv_at hl 0 rfl) ?_
    refine lv_iconst (v := 2) hx hb dL_law_705 (by decide) ?_
    refine lv_iadd hx hb dL_law_706 ?_
    refine lv_topi (fun y_2851 ey_2851 => ?_)
    obtain rfl : y_2851 = 2 := ey_2851.trans (by decide)
    refine va_sld hx hb hX hbl hbA hS (zf_in (by decide) (by decide)) dL_law_707 ?_
    refine lv_topi (fun y_2852 ey_2852 => ?_)
    obtain rfl : a_6 = y_2852 := ea_6.trans ey_2852.symm
    skip
    refine zw_V (As := [.int a_3, .int a_6]) (rest := [.int (-6)]) (wr := [(mki, .inl (cI, 8, .inl (fun _ => 0))), (mpa, .inl (cI, 8, .inl (fun _ => 0))), (mta, .inl (cI, 8, .inl (fun _ => 0))), (mla, .inl (cI, 40, .inl (fun _ => 0))), (msl, .inl (cI, 40, .inl (fun _ => 0))), (mhe, .inl (cI, 8, .inl (fun _ => 0))), (mso, .inl (cI, 8, .inl (fun _ => 0))), (msi, .inl (cI, 8, .inl (fun _ => 0))), (msh, .inl (cI, 8, .inl (fun _ => 0))), (mce, .inl (cJ, 1280, .inr (.inl (fun _ => 0)))), (mca, .inl (cJ, 160, .inr (.inl (fun _ => 0)))), (mwo, .inl (cI, 64, .inl fw_)), (mnu, .inl (cI, 10, .inl fn_)), (mte, .inl (cI, 3, .inl (fun _ => 0))), (mwa, .inl (cI, 130, .inl (fun _ => 0))), (mke, .inl (cI, 130, .inl (fun _ => 0))), (mma, .inl (cI, 3, .inl (fun _ => 0))), (mth, .inl (cI, 3, .inl (fun _ => 0))), (mtr, .inl (cI, 20, .inl (fun _ => 0)))]) ⟨hx, hb, hml, hown, hts⟩ (c_M_ask l D cI cJ cZ cP cS m0 mrf mki mpa mta mla msl mco mhe mso msi msh mce mca mwo mnu mte mwa mke mma mth mtr (a_3) (a_6)  H.size) (cwV 2 hts gq_73 rfl rfl rfl (by decide +kernel) ⟨Nat.le_of_ble_eq_true rfl, Nat.le_of_ble_eq_true rfl⟩) hK hN (hZ.kept hS) hP hD hS hA [0, 1, 7] [2, 3, 4, 5, 6, 8, 9, 10, 11, 12, 13, 14, 15, 16, 17, 18, 19, 20, 21] rfl rfl (by decide) (by decide) (by decide) (va_recv hK hP (ci := 8) (q0 := 0) rfl rfl) rfl hl.1 rfl (Nat.le_of_ble_eq_true rfl) dL_law_708 ⟨Nat.le_of_ble_eq_true rfl, Nat.le_of_ble_eq_true rfl⟩ (fun r_2853 u_2854 H locs hr_2853 hP hD hS => ?_)
    replace hP : va_P D vwCl [(mki, .inl (cI, 8, .inl (fun _ => 0))), (mpa, .inl (cI, 8, .inl (fun _ => 0))), (mta, .inl (cI, 8, .inl (fun _ => 0))), (mla, .inl (cI, 40, .inl (fun _ => 0))), (msl, .inl (cI, 40, .inl (fun _ => 0))), (mhe, .inl (cI, 8, .inl (fun _ => 0))), (mso, .inl (cI, 8, .inl (fun _ => 0))), (msi, .inl (cI, 8, .inl (fun _ => 0))), (msh, .inl (cI, 8, .inl (fun _ => 0))), (mce, .inl (cJ, 1280, .inr (.inl (fun _ => 0)))), (mca, .inl (cJ, 160, .inr (.inl (fun _ => 0)))), (mwo, .inl (cI, 64, .inl fw_)), (mnu, .inl (cI, 10, .inl fn_)), (mte, .inl (cI, 3, .inl (fun _ => 0))), (mwa, .inl (cI, 130, .inl (fun _ => 0))), (mke, .inl (cI, 130, .inl (fun _ => 0))), (mma, .inl (cI, 3, .inl (fun _ => 0))), (mth, .inl (cI, 3, .inl (fun _ => 0))), (mtr, .inl (cI, 20, .inl (fun _ => 0)))] H := hP
    replace hD : va_D _ [(mki, .inl (cI, 8, .inl (fun _ => 0))), (mpa, .inl (cI, 8, .inl (fun _ => 0))), (mta, .inl (cI, 8, .inl (fun _ => 0))), (mla, .inl (cI, 40, .inl (fun _ => 0))), (msl, .inl (cI, 40, .inl (fun _ => 0))), (mhe, .inl (cI, 8, .inl (fun _ => 0))), (mso, .inl (cI, 8, .inl (fun _ => 0))), (msi, .inl (cI, 8, .inl (fun _ => 0))), (msh, .inl (cI, 8, .inl (fun _ => 0))), (mce, .inl (cJ, 1280, .inr (.inl (fun _ => 0)))), (mca, .inl (cJ, 160, .inr (.inl (fun _ => 0)))), (mwo, .inl (cI, 64, .inl fw_)), (mnu, .inl (cI, 10, .inl fn_)), (mte, .inl (cI, 3, .inl (fun _ => 0))), (mwa, .inl (cI, 130, .inl (fun _ => 0))), (mke, .inl (cI, 130, .inl (fun _ => 0))), (mma, .inl (cI, 3, .inl (fun _ => 0))), (mth, .inl (cI, 3, .inl (fun _ => 0))), (mtr, .inl (cI, 20, .inl (fun _ => 0)))] := hD
    rcases hr_2853 with ⟨rfl, g_2855⟩ | ⟨rfl, g_2856, g_2857⟩ | ⟨rfl, g_2858, g_2859, g_2860, g_2861⟩ | ⟨rfl, g_2862, g_2863, g_2864, g_2865, g_2866, g_2867, g_2868, g_2869⟩ | ⟨rfl, g_2870, g_2871, g_2872, g_2873, g_2874, g_2875, g_2876, g_2877⟩ | ⟨rfl, g_2878, g_2879, g_2880, g_2881, g_2882, g_2883, g_2884, g_2885, g_2886⟩ | ⟨rfl, g_2887, g_2888, g_2889, g_2890, g_2891, g_2892, g_2893, g_2894, g_2895, g_2896⟩ | ⟨rfl, g_2897, g_2898, g_2899, g_2900, g_2901, g_2902, g_2903, g_2904, g_2905, g_2906⟩ | ⟨rfl, g_2907, g_2908, g_2909, g_2910, g_2911, g_2912, g_2913, g_2914, g_2915, g_2916⟩ | ⟨rfl, g_2917, g_2918, g_2919, g_2920, g_2921, g_2922, g_2923, g_2924, g_2925, g_2926⟩ | ⟨rfl, g_2927, g_2928, g_2929, g_2930, g_2931, g_2932, g_2933, g_2934, g_2935⟩ | ⟨rfl, g_2936, g_2937, g_2938, g_2939, g_2940, g_2941, g_2942, g_2943, g_2944⟩ | ⟨rfl, g_2945, g_2946, g_2947, g_2948, g_2949, g_2950, g_2951, g_2952, g_2953⟩ | ⟨rfl, g_2954, g_2955, g_2956, g_2957, g_2958, g_2959, g_2960, g_2961, g_2962⟩ | ⟨rfl, g_2963, g_2964, g_2965, g_2966, g_2967, g_2968, g_2969⟩ | ⟨rfl, g_2970, g_2971, g_2972, g_2973, g_2974, g_2975, g_2976⟩ | ⟨rfl, g_2977, g_2978, g_2979, g_2980, g_2981, g_2982⟩ | ⟨rfl, g_2983, g_2984, g_2985, g_2986, g_2987, g_2988⟩ | ⟨rfl, g_2989, g_2990, g_2991, g_2992⟩ | ⟨rfl, g_2993, g_2994, g_2995, g_2996, g_2997⟩ | ⟨rfl, g_2998, g_2999, g_3000, g_3001, g_3002⟩
    · exfalso; omega
    · exfalso; omega
    · refine lv_icmp_eq (tgt := 1371) hx hb dL_law_711 (by decide) (fun c_3003 => ?_) (fun c_3003 => ?_)
      · refine lv_iinc (v := 6) (lv' := [(3, .int 6), (2, .ref m0), (1, .ref x0), (0, .ref b)]) hx hb dL_law_1371 hl (k := 0) rfl (by decide) (by decide) rfl (fun ls hl => ?_)
        refine lv_goto (tgt := 18) hx hb dL_law_1374 (by decide) ?_
        refine lv_iload_n hx hb dL_law_18 rfl (lv_at hl 0 rfl) ?_
        refine lv_aload_n hx hb dL_law_19 rfl (lv_at hl 3 rfl) ?_
        refine va_slen hx hb hX hbl hbA hS dL_law_20 ?_
        refine lv_topi (fun y_3004 ey_3004 => ?_)
        obtain rfl : y_3004 = 6 := ey_3004.trans (by decide)
        refine lv_bipush (v := 6) hx hb dL_law_21 (by decide) ?_
        refine lv_isub hx hb dL_law_23 ?_
        refine lv_topi (fun y_3005 ey_3005 => ?_)
        obtain rfl : y_3005 = 0 := ey_3005.trans (by decide)
        refine lv_icmp_gt (tgt := 1377) hx hb dL_law_24 (by decide) (fun c_3006 => ?_) (fun c_3006 => ?_)
        · refine lv_iconst (v := 1) hx hb dL_law_1377 (by decide) ?_
          refine va_forget (fun q hq => hS.2.2 q hq) ?_
          refine W.widen (k := 600000) (n := 7302250) (Nat.le_of_ble_eq_true rfl) (Nat.le_of_ble_eq_true rfl) ?_
          exact lw_ret hx hb hr hlocks dL_law_1378
        · exact absurd c_3006 (by decide)
      · exact absurd c_3003 (by decide)
    · exfalso; omega
    · exfalso; omega
    · exfalso; omega
    · exfalso; omega
    · exfalso; omega
    · exfalso; omega
    · exfalso; omega
    · exfalso; omega
    · exfalso; omega
    · exfalso; omega
    · exfalso; omega
    · exfalso; omega
    · exfalso; omega
    · exfalso; omega
    · exfalso; omega
    · exfalso; omega
    · exfalso; omega
    · exfalso; omega
  · refine lv_aload_n hx hb dL_law_697 rfl (lv_at hl 1 rfl) ?_
    refine lv_aload_n hx hb dL_law_698 rfl (lv_at hl 3 rfl) ?_
    refine lv_iload_n hx hb dL_law_699 rfl (lv_at hl 0 rfl) ?_
    refine lv_iconst (v := 1) hx hb dL_law_700 (by decide) ?_
    refine lv_iadd hx hb dL_law_701 ?_
    refine lv_topi (fun y_3007 ey_3007 => ?_)
    obtain rfl : y_3007 = 1 := ey_3007.trans (by decide)
    refine va_sld hx hb hX hbl hbA hS (zf_in (by decide) (by decide)) dL_law_702 ?_
    refine lv_topi (fun y_3008 ey_3008 => ?_)
    obtain rfl : a_3 = y_3008 := ea_3.trans ey_3008.symm
    refine lv_aload_n hx hb dL_law_703 rfl (lv_at hl 3 rfl) ?_
    refine lv_iload_n hx hb dL_law_704 rfl (lv_at hl 0 rfl) ?_
    refine lv_iconst (v := 2) hx hb dL_law_705 (by decide) ?_
    refine lv_iadd hx hb dL_law_706 ?_
    refine lv_topi (fun y_3009 ey_3009 => ?_)
    obtain rfl : y_3009 = 2 := ey_3009.trans (by decide)
    refine va_sld hx hb hX hbl hbA hS (zf_in (by decide) (by decide)) dL_law_707 ?_
    refine lv_topi (fun y_3010 ey_3010 => ?_)
    obtain rfl : a_6 = y_3010 := ea_6.trans ey_3010.symm
    skip
    refine zw_V (As := [.int a_3, .int a_6]) (rest := [.int (-6)]) (wr := [(mki, .inl (cI, 8, .inl (fun _ => 0))), (mpa, .inl (cI, 8, .inl (fun _ => 0))), (mta, .inl (cI, 8, .inl (fun _ => 0))), (mla, .inl (cI, 40, .inl (fun _ => 0))), (msl, .inl (cI, 40, .inl (fun _ => 0))), (mhe, .inl (cI, 8, .inl (fun _ => 0))), (mso, .inl (cI, 8, .inl (fun _ => 0))), (msi, .inl (cI, 8, .inl (fun _ => 0))), (msh, .inl (cI, 8, .inl (fun _ => 0))), (mce, .inl (cJ, 1280, .inr (.inl (fun _ => 0)))), (mca, .inl (cJ, 160, .inr (.inl (fun _ => 0)))), (mwo, .inl (cI, 64, .inl fw_)), (mnu, .inl (cI, 10, .inl fn_)), (mte, .inl (cI, 3, .inl (fun _ => 0))), (mwa, .inl (cI, 130, .inl (fun _ => 0))), (mke, .inl (cI, 130, .inl (fun _ => 0))), (mma, .inl (cI, 3, .inl (fun _ => 0))), (mth, .inl (cI, 3, .inl (fun _ => 0))), (mtr, .inl (cI, 20, .inl (fun _ => 0)))]) ⟨hx, hb, hml, hown, hts⟩ (c_M_ask l D cI cJ cZ cP cS m0 mrf mki mpa mta mla msl mco mhe mso msi msh mce mca mwo mnu mte mwa mke mma mth mtr (a_3) (a_6)  H.size) (cwV 2 hts gq_73 rfl rfl rfl (by decide +kernel) ⟨Nat.le_of_ble_eq_true rfl, Nat.le_of_ble_eq_true rfl⟩) hK hN (hZ.kept hS) hP hD hS hA [0, 1, 7] [2, 3, 4, 5, 6, 8, 9, 10, 11, 12, 13, 14, 15, 16, 17, 18, 19, 20, 21] rfl rfl (by decide) (by decide) (by decide) (va_recv hK hP (ci := 8) (q0 := 0) rfl rfl) rfl hl.1 rfl (Nat.le_of_ble_eq_true rfl) dL_law_708 ⟨Nat.le_of_ble_eq_true rfl, Nat.le_of_ble_eq_true rfl⟩ (fun r_3011 u_3012 H locs hr_3011 hP hD hS => ?_)
    replace hP : va_P D vwCl [(mki, .inl (cI, 8, .inl (fun _ => 0))), (mpa, .inl (cI, 8, .inl (fun _ => 0))), (mta, .inl (cI, 8, .inl (fun _ => 0))), (mla, .inl (cI, 40, .inl (fun _ => 0))), (msl, .inl (cI, 40, .inl (fun _ => 0))), (mhe, .inl (cI, 8, .inl (fun _ => 0))), (mso, .inl (cI, 8, .inl (fun _ => 0))), (msi, .inl (cI, 8, .inl (fun _ => 0))), (msh, .inl (cI, 8, .inl (fun _ => 0))), (mce, .inl (cJ, 1280, .inr (.inl (fun _ => 0)))), (mca, .inl (cJ, 160, .inr (.inl (fun _ => 0)))), (mwo, .inl (cI, 64, .inl fw_)), (mnu, .inl (cI, 10, .inl fn_)), (mte, .inl (cI, 3, .inl (fun _ => 0))), (mwa, .inl (cI, 130, .inl (fun _ => 0))), (mke, .inl (cI, 130, .inl (fun _ => 0))), (mma, .inl (cI, 3, .inl (fun _ => 0))), (mth, .inl (cI, 3, .inl (fun _ => 0))), (mtr, .inl (cI, 20, .inl (fun _ => 0)))] H := hP
    replace hD : va_D _ [(mki, .inl (cI, 8, .inl (fun _ => 0))), (mpa, .inl (cI, 8, .inl (fun _ => 0))), (mta, .inl (cI, 8, .inl (fun _ => 0))), (mla, .inl (cI, 40, .inl (fun _ => 0))), (msl, .inl (cI, 40, .inl (fun _ => 0))), (mhe, .inl (cI, 8, .inl (fun _ => 0))), (mso, .inl (cI, 8, .inl (fun _ => 0))), (msi, .inl (cI, 8, .inl (fun _ => 0))), (msh, .inl (cI, 8, .inl (fun _ => 0))), (mce, .inl (cJ, 1280, .inr (.inl (fun _ => 0)))), (mca, .inl (cJ, 160, .inr (.inl (fun _ => 0)))), (mwo, .inl (cI, 64, .inl fw_)), (mnu, .inl (cI, 10, .inl fn_)), (mte, .inl (cI, 3, .inl (fun _ => 0))), (mwa, .inl (cI, 130, .inl (fun _ => 0))), (mke, .inl (cI, 130, .inl (fun _ => 0))), (mma, .inl (cI, 3, .inl (fun _ => 0))), (mth, .inl (cI, 3, .inl (fun _ => 0))), (mtr, .inl (cI, 20, .inl (fun _ => 0)))] := hD
    rcases hr_3011 with ⟨rfl, g_3013⟩ | ⟨rfl, g_3014, g_3015⟩ | ⟨rfl, g_3016, g_3017, g_3018, g_3019⟩ | ⟨rfl, g_3020, g_3021, g_3022, g_3023, g_3024, g_3025, g_3026, g_3027⟩ | ⟨rfl, g_3028, g_3029, g_3030, g_3031, g_3032, g_3033, g_3034, g_3035⟩ | ⟨rfl, g_3036, g_3037, g_3038, g_3039, g_3040, g_3041, g_3042, g_3043, g_3044⟩ | ⟨rfl, g_3045, g_3046, g_3047, g_3048, g_3049, g_3050, g_3051, g_3052, g_3053, g_3054⟩ | ⟨rfl, g_3055, g_3056, g_3057, g_3058, g_3059, g_3060, g_3061, g_3062, g_3063, g_3064⟩ | ⟨rfl, g_3065, g_3066, g_3067, g_3068, g_3069, g_3070, g_3071, g_3072, g_3073, g_3074⟩ | ⟨rfl, g_3075, g_3076, g_3077, g_3078, g_3079, g_3080, g_3081, g_3082, g_3083, g_3084⟩ | ⟨rfl, g_3085, g_3086, g_3087, g_3088, g_3089, g_3090, g_3091, g_3092, g_3093⟩ | ⟨rfl, g_3094, g_3095, g_3096, g_3097, g_3098, g_3099, g_3100, g_3101, g_3102⟩ | ⟨rfl, g_3103, g_3104, g_3105, g_3106, g_3107, g_3108, g_3109, g_3110, g_3111⟩ | ⟨rfl, g_3112, g_3113, g_3114, g_3115, g_3116, g_3117, g_3118, g_3119, g_3120⟩ | ⟨rfl, g_3121, g_3122, g_3123, g_3124, g_3125, g_3126, g_3127⟩ | ⟨rfl, g_3128, g_3129, g_3130, g_3131, g_3132, g_3133, g_3134⟩ | ⟨rfl, g_3135, g_3136, g_3137, g_3138, g_3139, g_3140⟩ | ⟨rfl, g_3141, g_3142, g_3143, g_3144, g_3145, g_3146⟩ | ⟨rfl, g_3147, g_3148, g_3149, g_3150⟩ | ⟨rfl, g_3151, g_3152, g_3153, g_3154, g_3155⟩ | ⟨rfl, g_3156, g_3157, g_3158, g_3159, g_3160⟩
    · exfalso; omega
    · exfalso; omega
    · exfalso; omega
    · exfalso; omega
    · exfalso; omega
    · refine lv_icmp_eq (tgt := 1371) hx hb dL_law_711 (by decide) (fun c_3161 => ?_) (fun c_3161 => ?_)
      · refine lv_iinc (v := 6) (lv' := [(3, .int 6), (2, .ref m0), (1, .ref x0), (0, .ref b)]) hx hb dL_law_1371 hl (k := 0) rfl (by decide) (by decide) rfl (fun ls hl => ?_)
        refine lv_goto (tgt := 18) hx hb dL_law_1374 (by decide) ?_
        refine lv_iload_n hx hb dL_law_18 rfl (lv_at hl 0 rfl) ?_
        refine lv_aload_n hx hb dL_law_19 rfl (lv_at hl 3 rfl) ?_
        refine va_slen hx hb hX hbl hbA hS dL_law_20 ?_
        refine lv_topi (fun y_3162 ey_3162 => ?_)
        obtain rfl : y_3162 = 6 := ey_3162.trans (by decide)
        refine lv_bipush (v := 6) hx hb dL_law_21 (by decide) ?_
        refine lv_isub hx hb dL_law_23 ?_
        refine lv_topi (fun y_3163 ey_3163 => ?_)
        obtain rfl : y_3163 = 0 := ey_3163.trans (by decide)
        refine lv_icmp_gt (tgt := 1377) hx hb dL_law_24 (by decide) (fun c_3164 => ?_) (fun c_3164 => ?_)
        · refine lv_iconst (v := 1) hx hb dL_law_1377 (by decide) ?_
          refine va_forget (fun q hq => hS.2.2 q hq) ?_
          refine W.widen (k := 600000) (n := 7302250) (Nat.le_of_ble_eq_true rfl) (Nat.le_of_ble_eq_true rfl) ?_
          exact lw_ret hx hb hr hlocks dL_law_1378
        · exact absurd c_3164 (by decide)
      · exact absurd c_3161 (by decide)
    · exfalso; omega
    · exfalso; omega
    · exfalso; omega
    · exfalso; omega
    · exfalso; omega
    · exfalso; omega
    · exfalso; omega
    · exfalso; omega
    · exfalso; omega
    · exfalso; omega
    · exfalso; omega
    · exfalso; omega
    · exfalso; omega
    · exfalso; omega
    · exfalso; omega
  · refine lv_aload_n hx hb dL_law_697 rfl (lv_at hl 1 rfl) ?_
    refine lv_aload_n hx hb dL_law_698 rfl (lv_at hl 3 rfl) ?_
    refine lv_iload_n hx hb dL_law_699 rfl (lv_at hl 0 rfl) ?_
    refine lv_iconst (v := 1) hx hb dL_law_700 (by decide) ?_
    refine lv_iadd hx hb dL_law_701 ?_
    refine lv_topi (fun y_3165 ey_3165 => ?_)
    obtain rfl : y_3165 = 1 := ey_3165.trans (by decide)
    refine va_sld hx hb hX hbl hbA hS (zf_in (by decide) (by decide)) dL_law_702 ?_
    refine lv_topi (fun y_3166 ey_3166 => ?_)
    obtain rfl : a_3 = y_3166 := ea_3.trans ey_3166.symm
    refine lv_aload_n hx hb dL_law_703 rfl (lv_at hl 3 rfl) ?_
    refine lv_iload_n hx hb dL_law_704 rfl (lv_at hl 0 rfl) ?_
    refine lv_iconst (v := 2) hx hb dL_law_705 (by decide) ?_
    refine lv_iadd hx hb dL_law_706 ?_
    refine lv_topi (fun y_3167 ey_3167 => ?_)
    obtain rfl : y_3167 = 2 := ey_3167.trans (by decide)
    refine va_sld hx hb hX hbl hbA hS (zf_in (by decide) (by decide)) dL_law_707 ?_
    refine lv_topi (fun y_3168 ey_3168 => ?_)
    obtain rfl : a_6 = y_3168 := ea_6.trans ey_3168.symm
    skip
    refine zw_V (As := [.int a_3, .int a_6]) (rest := [.int 10]) (wr := [(mki, .inl (cI, 8, .inl (fun _ => 0))), (mpa, .inl (cI, 8, .inl (fun _ => 0))), (mta, .inl (cI, 8, .inl (fun _ => 0))), (mla, .inl (cI, 40, .inl (fun _ => 0))), (msl, .inl (cI, 40, .inl (fun _ => 0))), (mhe, .inl (cI, 8, .inl (fun _ => 0))), (mso, .inl (cI, 8, .inl (fun _ => 0))), (msi, .inl (cI, 8, .inl (fun _ => 0))), (msh, .inl (cI, 8, .inl (fun _ => 0))), (mce, .inl (cJ, 1280, .inr (.inl (fun _ => 0)))), (mca, .inl (cJ, 160, .inr (.inl (fun _ => 0)))), (mwo, .inl (cI, 64, .inl fw_)), (mnu, .inl (cI, 10, .inl fn_)), (mte, .inl (cI, 3, .inl (fun _ => 0))), (mwa, .inl (cI, 130, .inl (fun _ => 0))), (mke, .inl (cI, 130, .inl (fun _ => 0))), (mma, .inl (cI, 3, .inl (fun _ => 0))), (mth, .inl (cI, 3, .inl (fun _ => 0))), (mtr, .inl (cI, 20, .inl (fun _ => 0)))]) ⟨hx, hb, hml, hown, hts⟩ (c_M_ask l D cI cJ cZ cP cS m0 mrf mki mpa mta mla msl mco mhe mso msi msh mce mca mwo mnu mte mwa mke mma mth mtr (a_3) (a_6)  H.size) (cwV 2 hts gq_73 rfl rfl rfl (by decide +kernel) ⟨Nat.le_of_ble_eq_true rfl, Nat.le_of_ble_eq_true rfl⟩) hK hN (hZ.kept hS) hP hD hS hA [0, 1, 7] [2, 3, 4, 5, 6, 8, 9, 10, 11, 12, 13, 14, 15, 16, 17, 18, 19, 20, 21] rfl rfl (by decide) (by decide) (by decide) (va_recv hK hP (ci := 8) (q0 := 0) rfl rfl) rfl hl.1 rfl (Nat.le_of_ble_eq_true rfl) dL_law_708 ⟨Nat.le_of_ble_eq_true rfl, Nat.le_of_ble_eq_true rfl⟩ (fun r_3169 u_3170 H locs hr_3169 hP hD hS => ?_)
    replace hP : va_P D vwCl [(mki, .inl (cI, 8, .inl (fun _ => 0))), (mpa, .inl (cI, 8, .inl (fun _ => 0))), (mta, .inl (cI, 8, .inl (fun _ => 0))), (mla, .inl (cI, 40, .inl (fun _ => 0))), (msl, .inl (cI, 40, .inl (fun _ => 0))), (mhe, .inl (cI, 8, .inl (fun _ => 0))), (mso, .inl (cI, 8, .inl (fun _ => 0))), (msi, .inl (cI, 8, .inl (fun _ => 0))), (msh, .inl (cI, 8, .inl (fun _ => 0))), (mce, .inl (cJ, 1280, .inr (.inl (fun _ => 0)))), (mca, .inl (cJ, 160, .inr (.inl (fun _ => 0)))), (mwo, .inl (cI, 64, .inl fw_)), (mnu, .inl (cI, 10, .inl fn_)), (mte, .inl (cI, 3, .inl (fun _ => 0))), (mwa, .inl (cI, 130, .inl (fun _ => 0))), (mke, .inl (cI, 130, .inl (fun _ => 0))), (mma, .inl (cI, 3, .inl (fun _ => 0))), (mth, .inl (cI, 3, .inl (fun _ => 0))), (mtr, .inl (cI, 20, .inl (fun _ => 0)))] H := hP
    replace hD : va_D _ [(mki, .inl (cI, 8, .inl (fun _ => 0))), (mpa, .inl (cI, 8, .inl (fun _ => 0))), (mta, .inl (cI, 8, .inl (fun _ => 0))), (mla, .inl (cI, 40, .inl (fun _ => 0))), (msl, .inl (cI, 40, .inl (fun _ => 0))), (mhe, .inl (cI, 8, .inl (fun _ => 0))), (mso, .inl (cI, 8, .inl (fun _ => 0))), (msi, .inl (cI, 8, .inl (fun _ => 0))), (msh, .inl (cI, 8, .inl (fun _ => 0))), (mce, .inl (cJ, 1280, .inr (.inl (fun _ => 0)))), (mca, .inl (cJ, 160, .inr (.inl (fun _ => 0)))), (mwo, .inl (cI, 64, .inl fw_)), (mnu, .inl (cI, 10, .inl fn_)), (mte, .inl (cI, 3, .inl (fun _ => 0))), (mwa, .inl (cI, 130, .inl (fun _ => 0))), (mke, .inl (cI, 130, .inl (fun _ => 0))), (mma, .inl (cI, 3, .inl (fun _ => 0))), (mth, .inl (cI, 3, .inl (fun _ => 0))), (mtr, .inl (cI, 20, .inl (fun _ => 0)))] := hD
    rcases hr_3169 with ⟨rfl, g_3171⟩ | ⟨rfl, g_3172, g_3173⟩ | ⟨rfl, g_3174, g_3175, g_3176, g_3177⟩ | ⟨rfl, g_3178, g_3179, g_3180, g_3181, g_3182, g_3183, g_3184, g_3185⟩ | ⟨rfl, g_3186, g_3187, g_3188, g_3189, g_3190, g_3191, g_3192, g_3193⟩ | ⟨rfl, g_3194, g_3195, g_3196, g_3197, g_3198, g_3199, g_3200, g_3201, g_3202⟩ | ⟨rfl, g_3203, g_3204, g_3205, g_3206, g_3207, g_3208, g_3209, g_3210, g_3211, g_3212⟩ | ⟨rfl, g_3213, g_3214, g_3215, g_3216, g_3217, g_3218, g_3219, g_3220, g_3221, g_3222⟩ | ⟨rfl, g_3223, g_3224, g_3225, g_3226, g_3227, g_3228, g_3229, g_3230, g_3231, g_3232⟩ | ⟨rfl, g_3233, g_3234, g_3235, g_3236, g_3237, g_3238, g_3239, g_3240, g_3241, g_3242⟩ | ⟨rfl, g_3243, g_3244, g_3245, g_3246, g_3247, g_3248, g_3249, g_3250, g_3251⟩ | ⟨rfl, g_3252, g_3253, g_3254, g_3255, g_3256, g_3257, g_3258, g_3259, g_3260⟩ | ⟨rfl, g_3261, g_3262, g_3263, g_3264, g_3265, g_3266, g_3267, g_3268, g_3269⟩ | ⟨rfl, g_3270, g_3271, g_3272, g_3273, g_3274, g_3275, g_3276, g_3277, g_3278⟩ | ⟨rfl, g_3279, g_3280, g_3281, g_3282, g_3283, g_3284, g_3285⟩ | ⟨rfl, g_3286, g_3287, g_3288, g_3289, g_3290, g_3291, g_3292⟩ | ⟨rfl, g_3293, g_3294, g_3295, g_3296, g_3297, g_3298⟩ | ⟨rfl, g_3299, g_3300, g_3301, g_3302, g_3303, g_3304⟩ | ⟨rfl, g_3305, g_3306, g_3307, g_3308⟩ | ⟨rfl, g_3309, g_3310, g_3311, g_3312, g_3313⟩ | ⟨rfl, g_3314, g_3315, g_3316, g_3317, g_3318⟩
    · exfalso; omega
    · exfalso; omega
    · exfalso; omega
    · exfalso; omega
    · exfalso; omega
    · exfalso; omega
    · exfalso; omega
    · exfalso; omega
    · refine lv_icmp_eq (tgt := 1371) hx hb dL_law_711 (by decide) (fun c_3319 => ?_) (fun c_3319 => ?_)
      · refine lv_iinc (v := 6) (lv' := [(3, .int 6), (2, .ref m0), (1, .ref x0), (0, .ref b)]) hx hb dL_law_1371 hl (k := 0) rfl (by decide) (by decide) rfl (fun ls hl => ?_)
        refine lv_goto (tgt := 18) hx hb dL_law_1374 (by decide) ?_
        refine lv_iload_n hx hb dL_law_18 rfl (lv_at hl 0 rfl) ?_
        refine lv_aload_n hx hb dL_law_19 rfl (lv_at hl 3 rfl) ?_
        refine va_slen hx hb hX hbl hbA hS dL_law_20 ?_
        refine lv_topi (fun y_3320 ey_3320 => ?_)
        obtain rfl : y_3320 = 6 := ey_3320.trans (by decide)
        refine lv_bipush (v := 6) hx hb dL_law_21 (by decide) ?_
        refine lv_isub hx hb dL_law_23 ?_
        refine lv_topi (fun y_3321 ey_3321 => ?_)
        obtain rfl : y_3321 = 0 := ey_3321.trans (by decide)
        refine lv_icmp_gt (tgt := 1377) hx hb dL_law_24 (by decide) (fun c_3322 => ?_) (fun c_3322 => ?_)
        · refine lv_iconst (v := 1) hx hb dL_law_1377 (by decide) ?_
          refine va_forget (fun q hq => hS.2.2 q hq) ?_
          refine W.widen (k := 600000) (n := 7302250) (Nat.le_of_ble_eq_true rfl) (Nat.le_of_ble_eq_true rfl) ?_
          exact lw_ret hx hb hr hlocks dL_law_1378
        · exact absurd c_3322 (by decide)
      · exact absurd c_3319 (by decide)
    · exfalso; omega
    · exfalso; omega
    · exfalso; omega
    · exfalso; omega
    · exfalso; omega
    · exfalso; omega
    · exfalso; omega
    · exfalso; omega
    · exfalso; omega
    · exfalso; omega
    · exfalso; omega
    · exfalso; omega
  · refine lv_aload_n hx hb dL_law_697 rfl (lv_at hl 1 rfl) ?_
    refine lv_aload_n hx hb dL_law_698 rfl (lv_at hl 3 rfl) ?_
    refine lv_iload_n hx hb dL_law_699 rfl (lv_at hl 0 rfl) ?_
    refine lv_iconst (v := 1) hx hb dL_law_700 (by decide) ?_
    refine lv_iadd hx hb dL_law_701 ?_
    refine lv_topi (fun y_3323 ey_3323 => ?_)
    obtain rfl : y_3323 = 1 := ey_3323.trans (by decide)
    refine va_sld hx hb hX hbl hbA hS (zf_in (by decide) (by decide)) dL_law_702 ?_
    refine lv_topi (fun y_3324 ey_3324 => ?_)
    obtain rfl : a_3 = y_3324 := ea_3.trans ey_3324.symm
    refine lv_aload_n hx hb dL_law_703 rfl (lv_at hl 3 rfl) ?_
    refine lv_iload_n hx hb dL_law_704 rfl (lv_at hl 0 rfl) ?_
    refine lv_iconst (v := 2) hx hb dL_law_705 (by decide) ?_
    refine lv_iadd hx hb dL_law_706 ?_
    refine lv_topi (fun y_3325 ey_3325 => ?_)
    obtain rfl : y_3325 = 2 := ey_3325.trans (by decide)
    refine va_sld hx hb hX hbl hbA hS (zf_in (by decide) (by decide)) dL_law_707 ?_
    refine lv_topi (fun y_3326 ey_3326 => ?_)
    obtain rfl : a_6 = y_3326 := ea_6.trans ey_3326.symm
    skip
    refine zw_V (As := [.int a_3, .int a_6]) (rest := [.int (-6)]) (wr := [(mki, .inl (cI, 8, .inl (fun _ => 0))), (mpa, .inl (cI, 8, .inl (fun _ => 0))), (mta, .inl (cI, 8, .inl (fun _ => 0))), (mla, .inl (cI, 40, .inl (fun _ => 0))), (msl, .inl (cI, 40, .inl (fun _ => 0))), (mhe, .inl (cI, 8, .inl (fun _ => 0))), (mso, .inl (cI, 8, .inl (fun _ => 0))), (msi, .inl (cI, 8, .inl (fun _ => 0))), (msh, .inl (cI, 8, .inl (fun _ => 0))), (mce, .inl (cJ, 1280, .inr (.inl (fun _ => 0)))), (mca, .inl (cJ, 160, .inr (.inl (fun _ => 0)))), (mwo, .inl (cI, 64, .inl fw_)), (mnu, .inl (cI, 10, .inl fn_)), (mte, .inl (cI, 3, .inl (fun _ => 0))), (mwa, .inl (cI, 130, .inl (fun _ => 0))), (mke, .inl (cI, 130, .inl (fun _ => 0))), (mma, .inl (cI, 3, .inl (fun _ => 0))), (mth, .inl (cI, 3, .inl (fun _ => 0))), (mtr, .inl (cI, 20, .inl (fun _ => 0)))]) ⟨hx, hb, hml, hown, hts⟩ (c_M_ask l D cI cJ cZ cP cS m0 mrf mki mpa mta mla msl mco mhe mso msi msh mce mca mwo mnu mte mwa mke mma mth mtr (a_3) (a_6)  H.size) (cwV 2 hts gq_73 rfl rfl rfl (by decide +kernel) ⟨Nat.le_of_ble_eq_true rfl, Nat.le_of_ble_eq_true rfl⟩) hK hN (hZ.kept hS) hP hD hS hA [0, 1, 7] [2, 3, 4, 5, 6, 8, 9, 10, 11, 12, 13, 14, 15, 16, 17, 18, 19, 20, 21] rfl rfl (by decide) (by decide) (by decide) (va_recv hK hP (ci := 8) (q0 := 0) rfl rfl) rfl hl.1 rfl (Nat.le_of_ble_eq_true rfl) dL_law_708 ⟨Nat.le_of_ble_eq_true rfl, Nat.le_of_ble_eq_true rfl⟩ (fun r_3327 u_3328 H locs hr_3327 hP hD hS => ?_)
    replace hP : va_P D vwCl [(mki, .inl (cI, 8, .inl (fun _ => 0))), (mpa, .inl (cI, 8, .inl (fun _ => 0))), (mta, .inl (cI, 8, .inl (fun _ => 0))), (mla, .inl (cI, 40, .inl (fun _ => 0))), (msl, .inl (cI, 40, .inl (fun _ => 0))), (mhe, .inl (cI, 8, .inl (fun _ => 0))), (mso, .inl (cI, 8, .inl (fun _ => 0))), (msi, .inl (cI, 8, .inl (fun _ => 0))), (msh, .inl (cI, 8, .inl (fun _ => 0))), (mce, .inl (cJ, 1280, .inr (.inl (fun _ => 0)))), (mca, .inl (cJ, 160, .inr (.inl (fun _ => 0)))), (mwo, .inl (cI, 64, .inl fw_)), (mnu, .inl (cI, 10, .inl fn_)), (mte, .inl (cI, 3, .inl (fun _ => 0))), (mwa, .inl (cI, 130, .inl (fun _ => 0))), (mke, .inl (cI, 130, .inl (fun _ => 0))), (mma, .inl (cI, 3, .inl (fun _ => 0))), (mth, .inl (cI, 3, .inl (fun _ => 0))), (mtr, .inl (cI, 20, .inl (fun _ => 0)))] H := hP
    replace hD : va_D _ [(mki, .inl (cI, 8, .inl (fun _ => 0))), (mpa, .inl (cI, 8, .inl (fun _ => 0))), (mta, .inl (cI, 8, .inl (fun _ => 0))), (mla, .inl (cI, 40, .inl (fun _ => 0))), (msl, .inl (cI, 40, .inl (fun _ => 0))), (mhe, .inl (cI, 8, .inl (fun _ => 0))), (mso, .inl (cI, 8, .inl (fun _ => 0))), (msi, .inl (cI, 8, .inl (fun _ => 0))), (msh, .inl (cI, 8, .inl (fun _ => 0))), (mce, .inl (cJ, 1280, .inr (.inl (fun _ => 0)))), (mca, .inl (cJ, 160, .inr (.inl (fun _ => 0)))), (mwo, .inl (cI, 64, .inl fw_)), (mnu, .inl (cI, 10, .inl fn_)), (mte, .inl (cI, 3, .inl (fun _ => 0))), (mwa, .inl (cI, 130, .inl (fun _ => 0))), (mke, .inl (cI, 130, .inl (fun _ => 0))), (mma, .inl (cI, 3, .inl (fun _ => 0))), (mth, .inl (cI, 3, .inl (fun _ => 0))), (mtr, .inl (cI, 20, .inl (fun _ => 0)))] := hD
    rcases hr_3327 with ⟨rfl, g_3329⟩ | ⟨rfl, g_3330, g_3331⟩ | ⟨rfl, g_3332, g_3333, g_3334, g_3335⟩ | ⟨rfl, g_3336, g_3337, g_3338, g_3339, g_3340, g_3341, g_3342, g_3343⟩ | ⟨rfl, g_3344, g_3345, g_3346, g_3347, g_3348, g_3349, g_3350, g_3351⟩ | ⟨rfl, g_3352, g_3353, g_3354, g_3355, g_3356, g_3357, g_3358, g_3359, g_3360⟩ | ⟨rfl, g_3361, g_3362, g_3363, g_3364, g_3365, g_3366, g_3367, g_3368, g_3369, g_3370⟩ | ⟨rfl, g_3371, g_3372, g_3373, g_3374, g_3375, g_3376, g_3377, g_3378, g_3379, g_3380⟩ | ⟨rfl, g_3381, g_3382, g_3383, g_3384, g_3385, g_3386, g_3387, g_3388, g_3389, g_3390⟩ | ⟨rfl, g_3391, g_3392, g_3393, g_3394, g_3395, g_3396, g_3397, g_3398, g_3399, g_3400⟩ | ⟨rfl, g_3401, g_3402, g_3403, g_3404, g_3405, g_3406, g_3407, g_3408, g_3409⟩ | ⟨rfl, g_3410, g_3411, g_3412, g_3413, g_3414, g_3415, g_3416, g_3417, g_3418⟩ | ⟨rfl, g_3419, g_3420, g_3421, g_3422, g_3423, g_3424, g_3425, g_3426, g_3427⟩ | ⟨rfl, g_3428, g_3429, g_3430, g_3431, g_3432, g_3433, g_3434, g_3435, g_3436⟩ | ⟨rfl, g_3437, g_3438, g_3439, g_3440, g_3441, g_3442, g_3443⟩ | ⟨rfl, g_3444, g_3445, g_3446, g_3447, g_3448, g_3449, g_3450⟩ | ⟨rfl, g_3451, g_3452, g_3453, g_3454, g_3455, g_3456⟩ | ⟨rfl, g_3457, g_3458, g_3459, g_3460, g_3461, g_3462⟩ | ⟨rfl, g_3463, g_3464, g_3465, g_3466⟩ | ⟨rfl, g_3467, g_3468, g_3469, g_3470, g_3471⟩ | ⟨rfl, g_3472, g_3473, g_3474, g_3475, g_3476⟩
    · exfalso; omega
    · exfalso; omega
    · refine lv_icmp_eq (tgt := 1371) hx hb dL_law_711 (by decide) (fun c_3477 => ?_) (fun c_3477 => ?_)
      · refine lv_iinc (v := 6) (lv' := [(3, .int 6), (2, .ref m0), (1, .ref x0), (0, .ref b)]) hx hb dL_law_1371 hl (k := 0) rfl (by decide) (by decide) rfl (fun ls hl => ?_)
        refine lv_goto (tgt := 18) hx hb dL_law_1374 (by decide) ?_
        refine lv_iload_n hx hb dL_law_18 rfl (lv_at hl 0 rfl) ?_
        refine lv_aload_n hx hb dL_law_19 rfl (lv_at hl 3 rfl) ?_
        refine va_slen hx hb hX hbl hbA hS dL_law_20 ?_
        refine lv_topi (fun y_3478 ey_3478 => ?_)
        obtain rfl : y_3478 = 6 := ey_3478.trans (by decide)
        refine lv_bipush (v := 6) hx hb dL_law_21 (by decide) ?_
        refine lv_isub hx hb dL_law_23 ?_
        refine lv_topi (fun y_3479 ey_3479 => ?_)
        obtain rfl : y_3479 = 0 := ey_3479.trans (by decide)
        refine lv_icmp_gt (tgt := 1377) hx hb dL_law_24 (by decide) (fun c_3480 => ?_) (fun c_3480 => ?_)
        · refine lv_iconst (v := 1) hx hb dL_law_1377 (by decide) ?_
          refine va_forget (fun q hq => hS.2.2 q hq) ?_
          refine W.widen (k := 600000) (n := 7302250) (Nat.le_of_ble_eq_true rfl) (Nat.le_of_ble_eq_true rfl) ?_
          exact lw_ret hx hb hr hlocks dL_law_1378
        · exact absurd c_3480 (by decide)
      · exact absurd c_3477 (by decide)
    · exfalso; omega
    · exfalso; omega
    · exfalso; omega
    · exfalso; omega
    · exfalso; omega
    · exfalso; omega
    · exfalso; omega
    · exfalso; omega
    · exfalso; omega
    · exfalso; omega
    · exfalso; omega
    · exfalso; omega
    · exfalso; omega
    · exfalso; omega
    · exfalso; omega
    · exfalso; omega
    · exfalso; omega
    · exfalso; omega
  · refine lv_aload_n hx hb dL_law_697 rfl (lv_at hl 1 rfl) ?_
    refine lv_aload_n hx hb dL_law_698 rfl (lv_at hl 3 rfl) ?_
    refine lv_iload_n hx hb dL_law_699 rfl (lv_at hl 0 rfl) ?_
    refine lv_iconst (v := 1) hx hb dL_law_700 (by decide) ?_
    refine lv_iadd hx hb dL_law_701 ?_
    refine lv_topi (fun y_3481 ey_3481 => ?_)
    obtain rfl : y_3481 = 1 := ey_3481.trans (by decide)
    refine va_sld hx hb hX hbl hbA hS (zf_in (by decide) (by decide)) dL_law_702 ?_
    refine lv_topi (fun y_3482 ey_3482 => ?_)
    obtain rfl : a_3 = y_3482 := ea_3.trans ey_3482.symm
    refine lv_aload_n hx hb dL_law_703 rfl (lv_at hl 3 rfl) ?_
    refine lv_iload_n hx hb dL_law_704 rfl (lv_at hl 0 rfl) ?_
    refine lv_iconst (v := 2) hx hb dL_law_705 (by decide) ?_
    refine lv_iadd hx hb dL_law_706 ?_
    refine lv_topi (fun y_3483 ey_3483 => ?_)
    obtain rfl : y_3483 = 2 := ey_3483.trans (by decide)
    refine va_sld hx hb hX hbl hbA hS (zf_in (by decide) (by decide)) dL_law_707 ?_
    refine lv_topi (fun y_3484 ey_3484 => ?_)
    obtain rfl : a_6 = y_3484 := ea_6.trans ey_3484.symm
    skip
    refine zw_V (As := [.int a_3, .int a_6]) (rest := [.int (-6)]) (wr := [(mki, .inl (cI, 8, .inl (fun _ => 0))), (mpa, .inl (cI, 8, .inl (fun _ => 0))), (mta, .inl (cI, 8, .inl (fun _ => 0))), (mla, .inl (cI, 40, .inl (fun _ => 0))), (msl, .inl (cI, 40, .inl (fun _ => 0))), (mhe, .inl (cI, 8, .inl (fun _ => 0))), (mso, .inl (cI, 8, .inl (fun _ => 0))), (msi, .inl (cI, 8, .inl (fun _ => 0))), (msh, .inl (cI, 8, .inl (fun _ => 0))), (mce, .inl (cJ, 1280, .inr (.inl (fun _ => 0)))), (mca, .inl (cJ, 160, .inr (.inl (fun _ => 0)))), (mwo, .inl (cI, 64, .inl fw_)), (mnu, .inl (cI, 10, .inl fn_)), (mte, .inl (cI, 3, .inl (fun _ => 0))), (mwa, .inl (cI, 130, .inl (fun _ => 0))), (mke, .inl (cI, 130, .inl (fun _ => 0))), (mma, .inl (cI, 3, .inl (fun _ => 0))), (mth, .inl (cI, 3, .inl (fun _ => 0))), (mtr, .inl (cI, 20, .inl (fun _ => 0)))]) ⟨hx, hb, hml, hown, hts⟩ (c_M_ask l D cI cJ cZ cP cS m0 mrf mki mpa mta mla msl mco mhe mso msi msh mce mca mwo mnu mte mwa mke mma mth mtr (a_3) (a_6)  H.size) (cwV 2 hts gq_73 rfl rfl rfl (by decide +kernel) ⟨Nat.le_of_ble_eq_true rfl, Nat.le_of_ble_eq_true rfl⟩) hK hN (hZ.kept hS) hP hD hS hA [0, 1, 7] [2, 3, 4, 5, 6, 8, 9, 10, 11, 12, 13, 14, 15, 16, 17, 18, 19, 20, 21] rfl rfl (by decide) (by decide) (by decide) (va_recv hK hP (ci := 8) (q0 := 0) rfl rfl) rfl hl.1 rfl (Nat.le_of_ble_eq_true rfl) dL_law_708 ⟨Nat.le_of_ble_eq_true rfl, Nat.le_of_ble_eq_true rfl⟩ (fun r_3485 u_3486 H locs hr_3485 hP hD hS => ?_)
    replace hP : va_P D vwCl [(mki, .inl (cI, 8, .inl (fun _ => 0))), (mpa, .inl (cI, 8, .inl (fun _ => 0))), (mta, .inl (cI, 8, .inl (fun _ => 0))), (mla, .inl (cI, 40, .inl (fun _ => 0))), (msl, .inl (cI, 40, .inl (fun _ => 0))), (mhe, .inl (cI, 8, .inl (fun _ => 0))), (mso, .inl (cI, 8, .inl (fun _ => 0))), (msi, .inl (cI, 8, .inl (fun _ => 0))), (msh, .inl (cI, 8, .inl (fun _ => 0))), (mce, .inl (cJ, 1280, .inr (.inl (fun _ => 0)))), (mca, .inl (cJ, 160, .inr (.inl (fun _ => 0)))), (mwo, .inl (cI, 64, .inl fw_)), (mnu, .inl (cI, 10, .inl fn_)), (mte, .inl (cI, 3, .inl (fun _ => 0))), (mwa, .inl (cI, 130, .inl (fun _ => 0))), (mke, .inl (cI, 130, .inl (fun _ => 0))), (mma, .inl (cI, 3, .inl (fun _ => 0))), (mth, .inl (cI, 3, .inl (fun _ => 0))), (mtr, .inl (cI, 20, .inl (fun _ => 0)))] H := hP
    replace hD : va_D _ [(mki, .inl (cI, 8, .inl (fun _ => 0))), (mpa, .inl (cI, 8, .inl (fun _ => 0))), (mta, .inl (cI, 8, .inl (fun _ => 0))), (mla, .inl (cI, 40, .inl (fun _ => 0))), (msl, .inl (cI, 40, .inl (fun _ => 0))), (mhe, .inl (cI, 8, .inl (fun _ => 0))), (mso, .inl (cI, 8, .inl (fun _ => 0))), (msi, .inl (cI, 8, .inl (fun _ => 0))), (msh, .inl (cI, 8, .inl (fun _ => 0))), (mce, .inl (cJ, 1280, .inr (.inl (fun _ => 0)))), (mca, .inl (cJ, 160, .inr (.inl (fun _ => 0)))), (mwo, .inl (cI, 64, .inl fw_)), (mnu, .inl (cI, 10, .inl fn_)), (mte, .inl (cI, 3, .inl (fun _ => 0))), (mwa, .inl (cI, 130, .inl (fun _ => 0))), (mke, .inl (cI, 130, .inl (fun _ => 0))), (mma, .inl (cI, 3, .inl (fun _ => 0))), (mth, .inl (cI, 3, .inl (fun _ => 0))), (mtr, .inl (cI, 20, .inl (fun _ => 0)))] := hD
    rcases hr_3485 with ⟨rfl, g_3487⟩ | ⟨rfl, g_3488, g_3489⟩ | ⟨rfl, g_3490, g_3491, g_3492, g_3493⟩ | ⟨rfl, g_3494, g_3495, g_3496, g_3497, g_3498, g_3499, g_3500, g_3501⟩ | ⟨rfl, g_3502, g_3503, g_3504, g_3505, g_3506, g_3507, g_3508, g_3509⟩ | ⟨rfl, g_3510, g_3511, g_3512, g_3513, g_3514, g_3515, g_3516, g_3517, g_3518⟩ | ⟨rfl, g_3519, g_3520, g_3521, g_3522, g_3523, g_3524, g_3525, g_3526, g_3527, g_3528⟩ | ⟨rfl, g_3529, g_3530, g_3531, g_3532, g_3533, g_3534, g_3535, g_3536, g_3537, g_3538⟩ | ⟨rfl, g_3539, g_3540, g_3541, g_3542, g_3543, g_3544, g_3545, g_3546, g_3547, g_3548⟩ | ⟨rfl, g_3549, g_3550, g_3551, g_3552, g_3553, g_3554, g_3555, g_3556, g_3557, g_3558⟩ | ⟨rfl, g_3559, g_3560, g_3561, g_3562, g_3563, g_3564, g_3565, g_3566, g_3567⟩ | ⟨rfl, g_3568, g_3569, g_3570, g_3571, g_3572, g_3573, g_3574, g_3575, g_3576⟩ | ⟨rfl, g_3577, g_3578, g_3579, g_3580, g_3581, g_3582, g_3583, g_3584, g_3585⟩ | ⟨rfl, g_3586, g_3587, g_3588, g_3589, g_3590, g_3591, g_3592, g_3593, g_3594⟩ | ⟨rfl, g_3595, g_3596, g_3597, g_3598, g_3599, g_3600, g_3601⟩ | ⟨rfl, g_3602, g_3603, g_3604, g_3605, g_3606, g_3607, g_3608⟩ | ⟨rfl, g_3609, g_3610, g_3611, g_3612, g_3613, g_3614⟩ | ⟨rfl, g_3615, g_3616, g_3617, g_3618, g_3619, g_3620⟩ | ⟨rfl, g_3621, g_3622, g_3623, g_3624⟩ | ⟨rfl, g_3625, g_3626, g_3627, g_3628, g_3629⟩ | ⟨rfl, g_3630, g_3631, g_3632, g_3633, g_3634⟩
    · exfalso; omega
    · exfalso; omega
    · exfalso; omega
    · exfalso; omega
    · exfalso; omega
    · refine lv_icmp_eq (tgt := 1371) hx hb dL_law_711 (by decide) (fun c_3635 => ?_) (fun c_3635 => ?_)
      · refine lv_iinc (v := 6) (lv' := [(3, .int 6), (2, .ref m0), (1, .ref x0), (0, .ref b)]) hx hb dL_law_1371 hl (k := 0) rfl (by decide) (by decide) rfl (fun ls hl => ?_)
        refine lv_goto (tgt := 18) hx hb dL_law_1374 (by decide) ?_
        refine lv_iload_n hx hb dL_law_18 rfl (lv_at hl 0 rfl) ?_
        refine lv_aload_n hx hb dL_law_19 rfl (lv_at hl 3 rfl) ?_
        refine va_slen hx hb hX hbl hbA hS dL_law_20 ?_
        refine lv_topi (fun y_3636 ey_3636 => ?_)
        obtain rfl : y_3636 = 6 := ey_3636.trans (by decide)
        refine lv_bipush (v := 6) hx hb dL_law_21 (by decide) ?_
        refine lv_isub hx hb dL_law_23 ?_
        refine lv_topi (fun y_3637 ey_3637 => ?_)
        obtain rfl : y_3637 = 0 := ey_3637.trans (by decide)
        refine lv_icmp_gt (tgt := 1377) hx hb dL_law_24 (by decide) (fun c_3638 => ?_) (fun c_3638 => ?_)
        · refine lv_iconst (v := 1) hx hb dL_law_1377 (by decide) ?_
          refine va_forget (fun q hq => hS.2.2 q hq) ?_
          refine W.widen (k := 600000) (n := 7302250) (Nat.le_of_ble_eq_true rfl) (Nat.le_of_ble_eq_true rfl) ?_
          exact lw_ret hx hb hr hlocks dL_law_1378
        · exact absurd c_3638 (by decide)
      · exact absurd c_3635 (by decide)
    · exfalso; omega
    · exfalso; omega
    · exfalso; omega
    · exfalso; omega
    · exfalso; omega
    · exfalso; omega
    · exfalso; omega
    · exfalso; omega
    · exfalso; omega
    · exfalso; omega
    · exfalso; omega
    · exfalso; omega
    · exfalso; omega
    · exfalso; omega
    · exfalso; omega
  · refine lv_aload_n hx hb dL_law_697 rfl (lv_at hl 1 rfl) ?_
    refine lv_aload_n hx hb dL_law_698 rfl (lv_at hl 3 rfl) ?_
    refine lv_iload_n hx hb dL_law_699 rfl (lv_at hl 0 rfl) ?_
    refine lv_iconst (v := 1) hx hb dL_law_700 (by decide) ?_
    refine lv_iadd hx hb dL_law_701 ?_
    refine lv_topi (fun y_3639 ey_3639 => ?_)
    obtain rfl : y_3639 = 1 := ey_3639.trans (by decide)
    refine va_sld hx hb hX hbl hbA hS (zf_in (by decide) (by decide)) dL_law_702 ?_
    refine lv_topi (fun y_3640 ey_3640 => ?_)
    obtain rfl : a_3 = y_3640 := ea_3.trans ey_3640.symm
    refine lv_aload_n hx hb dL_law_703 rfl (lv_at hl 3 rfl) ?_
    refine lv_iload_n hx hb dL_law_704 rfl (lv_at hl 0 rfl) ?_
    refine lv_iconst (v := 2) hx hb dL_law_705 (by decide) ?_
    refine lv_iadd hx hb dL_law_706 ?_
    refine lv_topi (fun y_3641 ey_3641 => ?_)
    obtain rfl : y_3641 = 2 := ey_3641.trans (by decide)
    refine va_sld hx hb hX hbl hbA hS (zf_in (by decide) (by decide)) dL_law_707 ?_
    refine lv_topi (fun y_3642 ey_3642 => ?_)
    obtain rfl : a_6 = y_3642 := ea_6.trans ey_3642.symm
    skip
    refine zw_V (As := [.int a_3, .int a_6]) (rest := [.int 50]) (wr := [(mki, .inl (cI, 8, .inl (fun _ => 0))), (mpa, .inl (cI, 8, .inl (fun _ => 0))), (mta, .inl (cI, 8, .inl (fun _ => 0))), (mla, .inl (cI, 40, .inl (fun _ => 0))), (msl, .inl (cI, 40, .inl (fun _ => 0))), (mhe, .inl (cI, 8, .inl (fun _ => 0))), (mso, .inl (cI, 8, .inl (fun _ => 0))), (msi, .inl (cI, 8, .inl (fun _ => 0))), (msh, .inl (cI, 8, .inl (fun _ => 0))), (mce, .inl (cJ, 1280, .inr (.inl (fun _ => 0)))), (mca, .inl (cJ, 160, .inr (.inl (fun _ => 0)))), (mwo, .inl (cI, 64, .inl fw_)), (mnu, .inl (cI, 10, .inl fn_)), (mte, .inl (cI, 3, .inl (fun _ => 0))), (mwa, .inl (cI, 130, .inl (fun _ => 0))), (mke, .inl (cI, 130, .inl (fun _ => 0))), (mma, .inl (cI, 3, .inl (fun _ => 0))), (mth, .inl (cI, 3, .inl (fun _ => 0))), (mtr, .inl (cI, 20, .inl (fun _ => 0)))]) ⟨hx, hb, hml, hown, hts⟩ (c_M_ask l D cI cJ cZ cP cS m0 mrf mki mpa mta mla msl mco mhe mso msi msh mce mca mwo mnu mte mwa mke mma mth mtr (a_3) (a_6)  H.size) (cwV 2 hts gq_73 rfl rfl rfl (by decide +kernel) ⟨Nat.le_of_ble_eq_true rfl, Nat.le_of_ble_eq_true rfl⟩) hK hN (hZ.kept hS) hP hD hS hA [0, 1, 7] [2, 3, 4, 5, 6, 8, 9, 10, 11, 12, 13, 14, 15, 16, 17, 18, 19, 20, 21] rfl rfl (by decide) (by decide) (by decide) (va_recv hK hP (ci := 8) (q0 := 0) rfl rfl) rfl hl.1 rfl (Nat.le_of_ble_eq_true rfl) dL_law_708 ⟨Nat.le_of_ble_eq_true rfl, Nat.le_of_ble_eq_true rfl⟩ (fun r_3643 u_3644 H locs hr_3643 hP hD hS => ?_)
    replace hP : va_P D vwCl [(mki, .inl (cI, 8, .inl (fun _ => 0))), (mpa, .inl (cI, 8, .inl (fun _ => 0))), (mta, .inl (cI, 8, .inl (fun _ => 0))), (mla, .inl (cI, 40, .inl (fun _ => 0))), (msl, .inl (cI, 40, .inl (fun _ => 0))), (mhe, .inl (cI, 8, .inl (fun _ => 0))), (mso, .inl (cI, 8, .inl (fun _ => 0))), (msi, .inl (cI, 8, .inl (fun _ => 0))), (msh, .inl (cI, 8, .inl (fun _ => 0))), (mce, .inl (cJ, 1280, .inr (.inl (fun _ => 0)))), (mca, .inl (cJ, 160, .inr (.inl (fun _ => 0)))), (mwo, .inl (cI, 64, .inl fw_)), (mnu, .inl (cI, 10, .inl fn_)), (mte, .inl (cI, 3, .inl (fun _ => 0))), (mwa, .inl (cI, 130, .inl (fun _ => 0))), (mke, .inl (cI, 130, .inl (fun _ => 0))), (mma, .inl (cI, 3, .inl (fun _ => 0))), (mth, .inl (cI, 3, .inl (fun _ => 0))), (mtr, .inl (cI, 20, .inl (fun _ => 0)))] H := hP
    replace hD : va_D _ [(mki, .inl (cI, 8, .inl (fun _ => 0))), (mpa, .inl (cI, 8, .inl (fun _ => 0))), (mta, .inl (cI, 8, .inl (fun _ => 0))), (mla, .inl (cI, 40, .inl (fun _ => 0))), (msl, .inl (cI, 40, .inl (fun _ => 0))), (mhe, .inl (cI, 8, .inl (fun _ => 0))), (mso, .inl (cI, 8, .inl (fun _ => 0))), (msi, .inl (cI, 8, .inl (fun _ => 0))), (msh, .inl (cI, 8, .inl (fun _ => 0))), (mce, .inl (cJ, 1280, .inr (.inl (fun _ => 0)))), (mca, .inl (cJ, 160, .inr (.inl (fun _ => 0)))), (mwo, .inl (cI, 64, .inl fw_)), (mnu, .inl (cI, 10, .inl fn_)), (mte, .inl (cI, 3, .inl (fun _ => 0))), (mwa, .inl (cI, 130, .inl (fun _ => 0))), (mke, .inl (cI, 130, .inl (fun _ => 0))), (mma, .inl (cI, 3, .inl (fun _ => 0))), (mth, .inl (cI, 3, .inl (fun _ => 0))), (mtr, .inl (cI, 20, .inl (fun _ => 0)))] := hD
    rcases hr_3643 with ⟨rfl, g_3645⟩ | ⟨rfl, g_3646, g_3647⟩ | ⟨rfl, g_3648, g_3649, g_3650, g_3651⟩ | ⟨rfl, g_3652, g_3653, g_3654, g_3655, g_3656, g_3657, g_3658, g_3659⟩ | ⟨rfl, g_3660, g_3661, g_3662, g_3663, g_3664, g_3665, g_3666, g_3667⟩ | ⟨rfl, g_3668, g_3669, g_3670, g_3671, g_3672, g_3673, g_3674, g_3675, g_3676⟩ | ⟨rfl, g_3677, g_3678, g_3679, g_3680, g_3681, g_3682, g_3683, g_3684, g_3685, g_3686⟩ | ⟨rfl, g_3687, g_3688, g_3689, g_3690, g_3691, g_3692, g_3693, g_3694, g_3695, g_3696⟩ | ⟨rfl, g_3697, g_3698, g_3699, g_3700, g_3701, g_3702, g_3703, g_3704, g_3705, g_3706⟩ | ⟨rfl, g_3707, g_3708, g_3709, g_3710, g_3711, g_3712, g_3713, g_3714, g_3715, g_3716⟩ | ⟨rfl, g_3717, g_3718, g_3719, g_3720, g_3721, g_3722, g_3723, g_3724, g_3725⟩ | ⟨rfl, g_3726, g_3727, g_3728, g_3729, g_3730, g_3731, g_3732, g_3733, g_3734⟩ | ⟨rfl, g_3735, g_3736, g_3737, g_3738, g_3739, g_3740, g_3741, g_3742, g_3743⟩ | ⟨rfl, g_3744, g_3745, g_3746, g_3747, g_3748, g_3749, g_3750, g_3751, g_3752⟩ | ⟨rfl, g_3753, g_3754, g_3755, g_3756, g_3757, g_3758, g_3759⟩ | ⟨rfl, g_3760, g_3761, g_3762, g_3763, g_3764, g_3765, g_3766⟩ | ⟨rfl, g_3767, g_3768, g_3769, g_3770, g_3771, g_3772⟩ | ⟨rfl, g_3773, g_3774, g_3775, g_3776, g_3777, g_3778⟩ | ⟨rfl, g_3779, g_3780, g_3781, g_3782⟩ | ⟨rfl, g_3783, g_3784, g_3785, g_3786, g_3787⟩ | ⟨rfl, g_3788, g_3789, g_3790, g_3791, g_3792⟩
    · exfalso; omega
    · exfalso; omega
    · exfalso; omega
    · exfalso; omega
    · exfalso; omega
    · exfalso; omega
    · exfalso; omega
    · exfalso; omega
    · exfalso; omega
    · refine lv_icmp_eq (tgt := 1371) hx hb dL_law_711 (by decide) (fun c_3793 => ?_) (fun c_3793 => ?_)
      · refine lv_iinc (v := 6) (lv' := [(3, .int 6), (2, .ref m0), (1, .ref x0), (0, .ref b)]) hx hb dL_law_1371 hl (k := 0) rfl (by decide) (by decide) rfl (fun ls hl => ?_)
        refine lv_goto (tgt := 18) hx hb dL_law_1374 (by decide) ?_
        refine lv_iload_n hx hb dL_law_18 rfl (lv_at hl 0 rfl) ?_
        refine lv_aload_n hx hb dL_law_19 rfl (lv_at hl 3 rfl) ?_
        refine va_slen hx hb hX hbl hbA hS dL_law_20 ?_
        refine lv_topi (fun y_3794 ey_3794 => ?_)
        obtain rfl : y_3794 = 6 := ey_3794.trans (by decide)
        refine lv_bipush (v := 6) hx hb dL_law_21 (by decide) ?_
        refine lv_isub hx hb dL_law_23 ?_
        refine lv_topi (fun y_3795 ey_3795 => ?_)
        obtain rfl : y_3795 = 0 := ey_3795.trans (by decide)
        refine lv_icmp_gt (tgt := 1377) hx hb dL_law_24 (by decide) (fun c_3796 => ?_) (fun c_3796 => ?_)
        · refine lv_iconst (v := 1) hx hb dL_law_1377 (by decide) ?_
          refine va_forget (fun q hq => hS.2.2 q hq) ?_
          refine W.widen (k := 600000) (n := 7302250) (Nat.le_of_ble_eq_true rfl) (Nat.le_of_ble_eq_true rfl) ?_
          exact lw_ret hx hb hr hlocks dL_law_1378
        · exact absurd c_3796 (by decide)
      · exact absurd c_3793 (by decide)
    · exfalso; omega
    · exfalso; omega
    · exfalso; omega
    · exfalso; omega
    · exfalso; omega
    · exfalso; omega
    · exfalso; omega
    · exfalso; omega
    · exfalso; omega
    · exfalso; omega
    · exfalso; omega
  · refine lv_aload_n hx hb dL_law_697 rfl (lv_at hl 1 rfl) ?_
    refine lv_aload_n hx hb dL_law_698 rfl (lv_at hl 3 rfl) ?_
    refine lv_iload_n hx hb dL_law_699 rfl (lv_at hl 0 rfl) ?_
    refine lv_iconst (v := 1) hx hb dL_law_700 (by decide) ?_
    refine lv_iadd hx hb dL_law_701 ?_
    refine lv_topi (fun y_3797 ey_3797 => ?_)
    obtain rfl : y_3797 = 1 := ey_3797.trans (by decide)
    refine va_sld hx hb hX hbl hbA hS (zf_in (by decide) (by decide)) dL_law_702 ?_
    refine lv_topi (fun y_3798 ey_3798 => ?_)
    obtain rfl : a_3 = y_3798 := ea_3.trans ey_3798.symm
    refine lv_aload_n hx hb dL_law_703 rfl (lv_at hl 3 rfl) ?_
    refine lv_iload_n hx hb dL_law_704 rfl (lv_at hl 0 rfl) ?_
    refine lv_iconst (v := 2) hx hb dL_law_705 (by decide) ?_
    refine lv_iadd hx hb dL_law_706 ?_
    refine lv_topi (fun y_3799 ey_3799 => ?_)
    obtain rfl : y_3799 = 2 := ey_3799.trans (by decide)
    refine va_sld hx hb hX hbl hbA hS (zf_in (by decide) (by decide)) dL_law_707 ?_
    refine lv_topi (fun y_3800 ey_3800 => ?_)
    obtain rfl : a_6 = y_3800 := ea_6.trans ey_3800.symm
    skip
    refine zw_V (As := [.int a_3, .int a_6]) (rest := [.int (-6)]) (wr := [(mki, .inl (cI, 8, .inl (fun _ => 0))), (mpa, .inl (cI, 8, .inl (fun _ => 0))), (mta, .inl (cI, 8, .inl (fun _ => 0))), (mla, .inl (cI, 40, .inl (fun _ => 0))), (msl, .inl (cI, 40, .inl (fun _ => 0))), (mhe, .inl (cI, 8, .inl (fun _ => 0))), (mso, .inl (cI, 8, .inl (fun _ => 0))), (msi, .inl (cI, 8, .inl (fun _ => 0))), (msh, .inl (cI, 8, .inl (fun _ => 0))), (mce, .inl (cJ, 1280, .inr (.inl (fun _ => 0)))), (mca, .inl (cJ, 160, .inr (.inl (fun _ => 0)))), (mwo, .inl (cI, 64, .inl fw_)), (mnu, .inl (cI, 10, .inl fn_)), (mte, .inl (cI, 3, .inl (fun _ => 0))), (mwa, .inl (cI, 130, .inl (fun _ => 0))), (mke, .inl (cI, 130, .inl (fun _ => 0))), (mma, .inl (cI, 3, .inl (fun _ => 0))), (mth, .inl (cI, 3, .inl (fun _ => 0))), (mtr, .inl (cI, 20, .inl (fun _ => 0)))]) ⟨hx, hb, hml, hown, hts⟩ (c_M_ask l D cI cJ cZ cP cS m0 mrf mki mpa mta mla msl mco mhe mso msi msh mce mca mwo mnu mte mwa mke mma mth mtr (a_3) (a_6)  H.size) (cwV 2 hts gq_73 rfl rfl rfl (by decide +kernel) ⟨Nat.le_of_ble_eq_true rfl, Nat.le_of_ble_eq_true rfl⟩) hK hN (hZ.kept hS) hP hD hS hA [0, 1, 7] [2, 3, 4, 5, 6, 8, 9, 10, 11, 12, 13, 14, 15, 16, 17, 18, 19, 20, 21] rfl rfl (by decide) (by decide) (by decide) (va_recv hK hP (ci := 8) (q0 := 0) rfl rfl) rfl hl.1 rfl (Nat.le_of_ble_eq_true rfl) dL_law_708 ⟨Nat.le_of_ble_eq_true rfl, Nat.le_of_ble_eq_true rfl⟩ (fun r_3801 u_3802 H locs hr_3801 hP hD hS => ?_)
    replace hP : va_P D vwCl [(mki, .inl (cI, 8, .inl (fun _ => 0))), (mpa, .inl (cI, 8, .inl (fun _ => 0))), (mta, .inl (cI, 8, .inl (fun _ => 0))), (mla, .inl (cI, 40, .inl (fun _ => 0))), (msl, .inl (cI, 40, .inl (fun _ => 0))), (mhe, .inl (cI, 8, .inl (fun _ => 0))), (mso, .inl (cI, 8, .inl (fun _ => 0))), (msi, .inl (cI, 8, .inl (fun _ => 0))), (msh, .inl (cI, 8, .inl (fun _ => 0))), (mce, .inl (cJ, 1280, .inr (.inl (fun _ => 0)))), (mca, .inl (cJ, 160, .inr (.inl (fun _ => 0)))), (mwo, .inl (cI, 64, .inl fw_)), (mnu, .inl (cI, 10, .inl fn_)), (mte, .inl (cI, 3, .inl (fun _ => 0))), (mwa, .inl (cI, 130, .inl (fun _ => 0))), (mke, .inl (cI, 130, .inl (fun _ => 0))), (mma, .inl (cI, 3, .inl (fun _ => 0))), (mth, .inl (cI, 3, .inl (fun _ => 0))), (mtr, .inl (cI, 20, .inl (fun _ => 0)))] H := hP
    replace hD : va_D _ [(mki, .inl (cI, 8, .inl (fun _ => 0))), (mpa, .inl (cI, 8, .inl (fun _ => 0))), (mta, .inl (cI, 8, .inl (fun _ => 0))), (mla, .inl (cI, 40, .inl (fun _ => 0))), (msl, .inl (cI, 40, .inl (fun _ => 0))), (mhe, .inl (cI, 8, .inl (fun _ => 0))), (mso, .inl (cI, 8, .inl (fun _ => 0))), (msi, .inl (cI, 8, .inl (fun _ => 0))), (msh, .inl (cI, 8, .inl (fun _ => 0))), (mce, .inl (cJ, 1280, .inr (.inl (fun _ => 0)))), (mca, .inl (cJ, 160, .inr (.inl (fun _ => 0)))), (mwo, .inl (cI, 64, .inl fw_)), (mnu, .inl (cI, 10, .inl fn_)), (mte, .inl (cI, 3, .inl (fun _ => 0))), (mwa, .inl (cI, 130, .inl (fun _ => 0))), (mke, .inl (cI, 130, .inl (fun _ => 0))), (mma, .inl (cI, 3, .inl (fun _ => 0))), (mth, .inl (cI, 3, .inl (fun _ => 0))), (mtr, .inl (cI, 20, .inl (fun _ => 0)))] := hD
    rcases hr_3801 with ⟨rfl, g_3803⟩ | ⟨rfl, g_3804, g_3805⟩ | ⟨rfl, g_3806, g_3807, g_3808, g_3809⟩ | ⟨rfl, g_3810, g_3811, g_3812, g_3813, g_3814, g_3815, g_3816, g_3817⟩ | ⟨rfl, g_3818, g_3819, g_3820, g_3821, g_3822, g_3823, g_3824, g_3825⟩ | ⟨rfl, g_3826, g_3827, g_3828, g_3829, g_3830, g_3831, g_3832, g_3833, g_3834⟩ | ⟨rfl, g_3835, g_3836, g_3837, g_3838, g_3839, g_3840, g_3841, g_3842, g_3843, g_3844⟩ | ⟨rfl, g_3845, g_3846, g_3847, g_3848, g_3849, g_3850, g_3851, g_3852, g_3853, g_3854⟩ | ⟨rfl, g_3855, g_3856, g_3857, g_3858, g_3859, g_3860, g_3861, g_3862, g_3863, g_3864⟩ | ⟨rfl, g_3865, g_3866, g_3867, g_3868, g_3869, g_3870, g_3871, g_3872, g_3873, g_3874⟩ | ⟨rfl, g_3875, g_3876, g_3877, g_3878, g_3879, g_3880, g_3881, g_3882, g_3883⟩ | ⟨rfl, g_3884, g_3885, g_3886, g_3887, g_3888, g_3889, g_3890, g_3891, g_3892⟩ | ⟨rfl, g_3893, g_3894, g_3895, g_3896, g_3897, g_3898, g_3899, g_3900, g_3901⟩ | ⟨rfl, g_3902, g_3903, g_3904, g_3905, g_3906, g_3907, g_3908, g_3909, g_3910⟩ | ⟨rfl, g_3911, g_3912, g_3913, g_3914, g_3915, g_3916, g_3917⟩ | ⟨rfl, g_3918, g_3919, g_3920, g_3921, g_3922, g_3923, g_3924⟩ | ⟨rfl, g_3925, g_3926, g_3927, g_3928, g_3929, g_3930⟩ | ⟨rfl, g_3931, g_3932, g_3933, g_3934, g_3935, g_3936⟩ | ⟨rfl, g_3937, g_3938, g_3939, g_3940⟩ | ⟨rfl, g_3941, g_3942, g_3943, g_3944, g_3945⟩ | ⟨rfl, g_3946, g_3947, g_3948, g_3949, g_3950⟩
    · exfalso; omega
    · exfalso; omega
    · refine lv_icmp_eq (tgt := 1371) hx hb dL_law_711 (by decide) (fun c_3951 => ?_) (fun c_3951 => ?_)
      · refine lv_iinc (v := 6) (lv' := [(3, .int 6), (2, .ref m0), (1, .ref x0), (0, .ref b)]) hx hb dL_law_1371 hl (k := 0) rfl (by decide) (by decide) rfl (fun ls hl => ?_)
        refine lv_goto (tgt := 18) hx hb dL_law_1374 (by decide) ?_
        refine lv_iload_n hx hb dL_law_18 rfl (lv_at hl 0 rfl) ?_
        refine lv_aload_n hx hb dL_law_19 rfl (lv_at hl 3 rfl) ?_
        refine va_slen hx hb hX hbl hbA hS dL_law_20 ?_
        refine lv_topi (fun y_3952 ey_3952 => ?_)
        obtain rfl : y_3952 = 6 := ey_3952.trans (by decide)
        refine lv_bipush (v := 6) hx hb dL_law_21 (by decide) ?_
        refine lv_isub hx hb dL_law_23 ?_
        refine lv_topi (fun y_3953 ey_3953 => ?_)
        obtain rfl : y_3953 = 0 := ey_3953.trans (by decide)
        refine lv_icmp_gt (tgt := 1377) hx hb dL_law_24 (by decide) (fun c_3954 => ?_) (fun c_3954 => ?_)
        · refine lv_iconst (v := 1) hx hb dL_law_1377 (by decide) ?_
          refine va_forget (fun q hq => hS.2.2 q hq) ?_
          refine W.widen (k := 600000) (n := 7302250) (Nat.le_of_ble_eq_true rfl) (Nat.le_of_ble_eq_true rfl) ?_
          exact lw_ret hx hb hr hlocks dL_law_1378
        · exact absurd c_3954 (by decide)
      · exact absurd c_3951 (by decide)
    · exfalso; omega
    · exfalso; omega
    · exfalso; omega
    · exfalso; omega
    · exfalso; omega
    · exfalso; omega
    · exfalso; omega
    · exfalso; omega
    · exfalso; omega
    · exfalso; omega
    · exfalso; omega
    · exfalso; omega
    · exfalso; omega
    · exfalso; omega
    · exfalso; omega
    · exfalso; omega
    · exfalso; omega
    · exfalso; omega
  · refine lv_aload_n hx hb dL_law_697 rfl (lv_at hl 1 rfl) ?_
    refine lv_aload_n hx hb dL_law_698 rfl (lv_at hl 3 rfl) ?_
    refine lv_iload_n hx hb dL_law_699 rfl (lv_at hl 0 rfl) ?_
    refine lv_iconst (v := 1) hx hb dL_law_700 (by decide) ?_
    refine lv_iadd hx hb dL_law_701 ?_
    refine lv_topi (fun y_3955 ey_3955 => ?_)
    obtain rfl : y_3955 = 1 := ey_3955.trans (by decide)
    refine va_sld hx hb hX hbl hbA hS (zf_in (by decide) (by decide)) dL_law_702 ?_
    refine lv_topi (fun y_3956 ey_3956 => ?_)
    obtain rfl : a_3 = y_3956 := ea_3.trans ey_3956.symm
    refine lv_aload_n hx hb dL_law_703 rfl (lv_at hl 3 rfl) ?_
    refine lv_iload_n hx hb dL_law_704 rfl (lv_at hl 0 rfl) ?_
    refine lv_iconst (v := 2) hx hb dL_law_705 (by decide) ?_
    refine lv_iadd hx hb dL_law_706 ?_
    refine lv_topi (fun y_3957 ey_3957 => ?_)
    obtain rfl : y_3957 = 2 := ey_3957.trans (by decide)
    refine va_sld hx hb hX hbl hbA hS (zf_in (by decide) (by decide)) dL_law_707 ?_
    refine lv_topi (fun y_3958 ey_3958 => ?_)
    obtain rfl : a_6 = y_3958 := ea_6.trans ey_3958.symm
    skip
    refine zw_V (As := [.int a_3, .int a_6]) (rest := [.int (-6)]) (wr := [(mki, .inl (cI, 8, .inl (fun _ => 0))), (mpa, .inl (cI, 8, .inl (fun _ => 0))), (mta, .inl (cI, 8, .inl (fun _ => 0))), (mla, .inl (cI, 40, .inl (fun _ => 0))), (msl, .inl (cI, 40, .inl (fun _ => 0))), (mhe, .inl (cI, 8, .inl (fun _ => 0))), (mso, .inl (cI, 8, .inl (fun _ => 0))), (msi, .inl (cI, 8, .inl (fun _ => 0))), (msh, .inl (cI, 8, .inl (fun _ => 0))), (mce, .inl (cJ, 1280, .inr (.inl (fun _ => 0)))), (mca, .inl (cJ, 160, .inr (.inl (fun _ => 0)))), (mwo, .inl (cI, 64, .inl fw_)), (mnu, .inl (cI, 10, .inl fn_)), (mte, .inl (cI, 3, .inl (fun _ => 0))), (mwa, .inl (cI, 130, .inl (fun _ => 0))), (mke, .inl (cI, 130, .inl (fun _ => 0))), (mma, .inl (cI, 3, .inl (fun _ => 0))), (mth, .inl (cI, 3, .inl (fun _ => 0))), (mtr, .inl (cI, 20, .inl (fun _ => 0)))]) ⟨hx, hb, hml, hown, hts⟩ (c_M_ask l D cI cJ cZ cP cS m0 mrf mki mpa mta mla msl mco mhe mso msi msh mce mca mwo mnu mte mwa mke mma mth mtr (a_3) (a_6)  H.size) (cwV 2 hts gq_73 rfl rfl rfl (by decide +kernel) ⟨Nat.le_of_ble_eq_true rfl, Nat.le_of_ble_eq_true rfl⟩) hK hN (hZ.kept hS) hP hD hS hA [0, 1, 7] [2, 3, 4, 5, 6, 8, 9, 10, 11, 12, 13, 14, 15, 16, 17, 18, 19, 20, 21] rfl rfl (by decide) (by decide) (by decide) (va_recv hK hP (ci := 8) (q0 := 0) rfl rfl) rfl hl.1 rfl (Nat.le_of_ble_eq_true rfl) dL_law_708 ⟨Nat.le_of_ble_eq_true rfl, Nat.le_of_ble_eq_true rfl⟩ (fun r_3959 u_3960 H locs hr_3959 hP hD hS => ?_)
    replace hP : va_P D vwCl [(mki, .inl (cI, 8, .inl (fun _ => 0))), (mpa, .inl (cI, 8, .inl (fun _ => 0))), (mta, .inl (cI, 8, .inl (fun _ => 0))), (mla, .inl (cI, 40, .inl (fun _ => 0))), (msl, .inl (cI, 40, .inl (fun _ => 0))), (mhe, .inl (cI, 8, .inl (fun _ => 0))), (mso, .inl (cI, 8, .inl (fun _ => 0))), (msi, .inl (cI, 8, .inl (fun _ => 0))), (msh, .inl (cI, 8, .inl (fun _ => 0))), (mce, .inl (cJ, 1280, .inr (.inl (fun _ => 0)))), (mca, .inl (cJ, 160, .inr (.inl (fun _ => 0)))), (mwo, .inl (cI, 64, .inl fw_)), (mnu, .inl (cI, 10, .inl fn_)), (mte, .inl (cI, 3, .inl (fun _ => 0))), (mwa, .inl (cI, 130, .inl (fun _ => 0))), (mke, .inl (cI, 130, .inl (fun _ => 0))), (mma, .inl (cI, 3, .inl (fun _ => 0))), (mth, .inl (cI, 3, .inl (fun _ => 0))), (mtr, .inl (cI, 20, .inl (fun _ => 0)))] H := hP
    replace hD : va_D _ [(mki, .inl (cI, 8, .inl (fun _ => 0))), (mpa, .inl (cI, 8, .inl (fun _ => 0))), (mta, .inl (cI, 8, .inl (fun _ => 0))), (mla, .inl (cI, 40, .inl (fun _ => 0))), (msl, .inl (cI, 40, .inl (fun _ => 0))), (mhe, .inl (cI, 8, .inl (fun _ => 0))), (mso, .inl (cI, 8, .inl (fun _ => 0))), (msi, .inl (cI, 8, .inl (fun _ => 0))), (msh, .inl (cI, 8, .inl (fun _ => 0))), (mce, .inl (cJ, 1280, .inr (.inl (fun _ => 0)))), (mca, .inl (cJ, 160, .inr (.inl (fun _ => 0)))), (mwo, .inl (cI, 64, .inl fw_)), (mnu, .inl (cI, 10, .inl fn_)), (mte, .inl (cI, 3, .inl (fun _ => 0))), (mwa, .inl (cI, 130, .inl (fun _ => 0))), (mke, .inl (cI, 130, .inl (fun _ => 0))), (mma, .inl (cI, 3, .inl (fun _ => 0))), (mth, .inl (cI, 3, .inl (fun _ => 0))), (mtr, .inl (cI, 20, .inl (fun _ => 0)))] := hD
    rcases hr_3959 with ⟨rfl, g_3961⟩ | ⟨rfl, g_3962, g_3963⟩ | ⟨rfl, g_3964, g_3965, g_3966, g_3967⟩ | ⟨rfl, g_3968, g_3969, g_3970, g_3971, g_3972, g_3973, g_3974, g_3975⟩ | ⟨rfl, g_3976, g_3977, g_3978, g_3979, g_3980, g_3981, g_3982, g_3983⟩ | ⟨rfl, g_3984, g_3985, g_3986, g_3987, g_3988, g_3989, g_3990, g_3991, g_3992⟩ | ⟨rfl, g_3993, g_3994, g_3995, g_3996, g_3997, g_3998, g_3999, g_4000, g_4001, g_4002⟩ | ⟨rfl, g_4003, g_4004, g_4005, g_4006, g_4007, g_4008, g_4009, g_4010, g_4011, g_4012⟩ | ⟨rfl, g_4013, g_4014, g_4015, g_4016, g_4017, g_4018, g_4019, g_4020, g_4021, g_4022⟩ | ⟨rfl, g_4023, g_4024, g_4025, g_4026, g_4027, g_4028, g_4029, g_4030, g_4031, g_4032⟩ | ⟨rfl, g_4033, g_4034, g_4035, g_4036, g_4037, g_4038, g_4039, g_4040, g_4041⟩ | ⟨rfl, g_4042, g_4043, g_4044, g_4045, g_4046, g_4047, g_4048, g_4049, g_4050⟩ | ⟨rfl, g_4051, g_4052, g_4053, g_4054, g_4055, g_4056, g_4057, g_4058, g_4059⟩ | ⟨rfl, g_4060, g_4061, g_4062, g_4063, g_4064, g_4065, g_4066, g_4067, g_4068⟩ | ⟨rfl, g_4069, g_4070, g_4071, g_4072, g_4073, g_4074, g_4075⟩ | ⟨rfl, g_4076, g_4077, g_4078, g_4079, g_4080, g_4081, g_4082⟩ | ⟨rfl, g_4083, g_4084, g_4085, g_4086, g_4087, g_4088⟩ | ⟨rfl, g_4089, g_4090, g_4091, g_4092, g_4093, g_4094⟩ | ⟨rfl, g_4095, g_4096, g_4097, g_4098⟩ | ⟨rfl, g_4099, g_4100, g_4101, g_4102, g_4103⟩ | ⟨rfl, g_4104, g_4105, g_4106, g_4107, g_4108⟩
    · exfalso; omega
    · exfalso; omega
    · exfalso; omega
    · exfalso; omega
    · exfalso; omega
    · exfalso; omega
    · exfalso; omega
    · exfalso; omega
    · exfalso; omega
    · exfalso; omega
    · refine lv_icmp_eq (tgt := 1371) hx hb dL_law_711 (by decide) (fun c_4109 => ?_) (fun c_4109 => ?_)
      · refine lv_iinc (v := 6) (lv' := [(3, .int 6), (2, .ref m0), (1, .ref x0), (0, .ref b)]) hx hb dL_law_1371 hl (k := 0) rfl (by decide) (by decide) rfl (fun ls hl => ?_)
        refine lv_goto (tgt := 18) hx hb dL_law_1374 (by decide) ?_
        refine lv_iload_n hx hb dL_law_18 rfl (lv_at hl 0 rfl) ?_
        refine lv_aload_n hx hb dL_law_19 rfl (lv_at hl 3 rfl) ?_
        refine va_slen hx hb hX hbl hbA hS dL_law_20 ?_
        refine lv_topi (fun y_4110 ey_4110 => ?_)
        obtain rfl : y_4110 = 6 := ey_4110.trans (by decide)
        refine lv_bipush (v := 6) hx hb dL_law_21 (by decide) ?_
        refine lv_isub hx hb dL_law_23 ?_
        refine lv_topi (fun y_4111 ey_4111 => ?_)
        obtain rfl : y_4111 = 0 := ey_4111.trans (by decide)
        refine lv_icmp_gt (tgt := 1377) hx hb dL_law_24 (by decide) (fun c_4112 => ?_) (fun c_4112 => ?_)
        · refine lv_iconst (v := 1) hx hb dL_law_1377 (by decide) ?_
          refine va_forget (fun q hq => hS.2.2 q hq) ?_
          refine W.widen (k := 600000) (n := 7302250) (Nat.le_of_ble_eq_true rfl) (Nat.le_of_ble_eq_true rfl) ?_
          exact lw_ret hx hb hr hlocks dL_law_1378
        · exact absurd c_4112 (by decide)
      · exact absurd c_4109 (by decide)
    · exfalso; omega
    · exfalso; omega
    · exfalso; omega
    · exfalso; omega
    · exfalso; omega
    · exfalso; omega
    · exfalso; omega
    · exfalso; omega
    · exfalso; omega
    · exfalso; omega
  · refine lv_aload_n hx hb dL_law_697 rfl (lv_at hl 1 rfl) ?_
    refine lv_aload_n hx hb dL_law_698 rfl (lv_at hl 3 rfl) ?_
    refine lv_iload_n hx hb dL_law_699 rfl (lv_at hl 0 rfl) ?_
    refine lv_iconst (v := 1) hx hb dL_law_700 (by decide) ?_
    refine lv_iadd hx hb dL_law_701 ?_
    refine lv_topi (fun y_4113 ey_4113 => ?_)
    obtain rfl : y_4113 = 1 := ey_4113.trans (by decide)
    refine va_sld hx hb hX hbl hbA hS (zf_in (by decide) (by decide)) dL_law_702 ?_
    refine lv_topi (fun y_4114 ey_4114 => ?_)
    obtain rfl : a_3 = y_4114 := ea_3.trans ey_4114.symm
    refine lv_aload_n hx hb dL_law_703 rfl (lv_at hl 3 rfl) ?_
    refine lv_iload_n hx hb dL_law_704 rfl (lv_at hl 0 rfl) ?_
    refine lv_iconst (v := 2) hx hb dL_law_705 (by decide) ?_
    refine lv_iadd hx hb dL_law_706 ?_
    refine lv_topi (fun y_4115 ey_4115 => ?_)
    obtain rfl : y_4115 = 2 := ey_4115.trans (by decide)
    refine va_sld hx hb hX hbl hbA hS (zf_in (by decide) (by decide)) dL_law_707 ?_
    refine lv_topi (fun y_4116 ey_4116 => ?_)
    obtain rfl : a_6 = y_4116 := ea_6.trans ey_4116.symm
    skip
    refine zw_V (As := [.int a_3, .int a_6]) (rest := [.int 0]) (wr := [(mki, .inl (cI, 8, .inl (fun _ => 0))), (mpa, .inl (cI, 8, .inl (fun _ => 0))), (mta, .inl (cI, 8, .inl (fun _ => 0))), (mla, .inl (cI, 40, .inl (fun _ => 0))), (msl, .inl (cI, 40, .inl (fun _ => 0))), (mhe, .inl (cI, 8, .inl (fun _ => 0))), (mso, .inl (cI, 8, .inl (fun _ => 0))), (msi, .inl (cI, 8, .inl (fun _ => 0))), (msh, .inl (cI, 8, .inl (fun _ => 0))), (mce, .inl (cJ, 1280, .inr (.inl (fun _ => 0)))), (mca, .inl (cJ, 160, .inr (.inl (fun _ => 0)))), (mwo, .inl (cI, 64, .inl fw_)), (mnu, .inl (cI, 10, .inl fn_)), (mte, .inl (cI, 3, .inl (fun _ => 0))), (mwa, .inl (cI, 130, .inl (fun _ => 0))), (mke, .inl (cI, 130, .inl (fun _ => 0))), (mma, .inl (cI, 3, .inl (fun _ => 0))), (mth, .inl (cI, 3, .inl (fun _ => 0))), (mtr, .inl (cI, 20, .inl (fun _ => 0)))]) ⟨hx, hb, hml, hown, hts⟩ (c_M_ask l D cI cJ cZ cP cS m0 mrf mki mpa mta mla msl mco mhe mso msi msh mce mca mwo mnu mte mwa mke mma mth mtr (a_3) (a_6)  H.size) (cwV 2 hts gq_73 rfl rfl rfl (by decide +kernel) ⟨Nat.le_of_ble_eq_true rfl, Nat.le_of_ble_eq_true rfl⟩) hK hN (hZ.kept hS) hP hD hS hA [0, 1, 7] [2, 3, 4, 5, 6, 8, 9, 10, 11, 12, 13, 14, 15, 16, 17, 18, 19, 20, 21] rfl rfl (by decide) (by decide) (by decide) (va_recv hK hP (ci := 8) (q0 := 0) rfl rfl) rfl hl.1 rfl (Nat.le_of_ble_eq_true rfl) dL_law_708 ⟨Nat.le_of_ble_eq_true rfl, Nat.le_of_ble_eq_true rfl⟩ (fun r_4117 u_4118 H locs hr_4117 hP hD hS => ?_)
    replace hP : va_P D vwCl [(mki, .inl (cI, 8, .inl (fun _ => 0))), (mpa, .inl (cI, 8, .inl (fun _ => 0))), (mta, .inl (cI, 8, .inl (fun _ => 0))), (mla, .inl (cI, 40, .inl (fun _ => 0))), (msl, .inl (cI, 40, .inl (fun _ => 0))), (mhe, .inl (cI, 8, .inl (fun _ => 0))), (mso, .inl (cI, 8, .inl (fun _ => 0))), (msi, .inl (cI, 8, .inl (fun _ => 0))), (msh, .inl (cI, 8, .inl (fun _ => 0))), (mce, .inl (cJ, 1280, .inr (.inl (fun _ => 0)))), (mca, .inl (cJ, 160, .inr (.inl (fun _ => 0)))), (mwo, .inl (cI, 64, .inl fw_)), (mnu, .inl (cI, 10, .inl fn_)), (mte, .inl (cI, 3, .inl (fun _ => 0))), (mwa, .inl (cI, 130, .inl (fun _ => 0))), (mke, .inl (cI, 130, .inl (fun _ => 0))), (mma, .inl (cI, 3, .inl (fun _ => 0))), (mth, .inl (cI, 3, .inl (fun _ => 0))), (mtr, .inl (cI, 20, .inl (fun _ => 0)))] H := hP
    replace hD : va_D _ [(mki, .inl (cI, 8, .inl (fun _ => 0))), (mpa, .inl (cI, 8, .inl (fun _ => 0))), (mta, .inl (cI, 8, .inl (fun _ => 0))), (mla, .inl (cI, 40, .inl (fun _ => 0))), (msl, .inl (cI, 40, .inl (fun _ => 0))), (mhe, .inl (cI, 8, .inl (fun _ => 0))), (mso, .inl (cI, 8, .inl (fun _ => 0))), (msi, .inl (cI, 8, .inl (fun _ => 0))), (msh, .inl (cI, 8, .inl (fun _ => 0))), (mce, .inl (cJ, 1280, .inr (.inl (fun _ => 0)))), (mca, .inl (cJ, 160, .inr (.inl (fun _ => 0)))), (mwo, .inl (cI, 64, .inl fw_)), (mnu, .inl (cI, 10, .inl fn_)), (mte, .inl (cI, 3, .inl (fun _ => 0))), (mwa, .inl (cI, 130, .inl (fun _ => 0))), (mke, .inl (cI, 130, .inl (fun _ => 0))), (mma, .inl (cI, 3, .inl (fun _ => 0))), (mth, .inl (cI, 3, .inl (fun _ => 0))), (mtr, .inl (cI, 20, .inl (fun _ => 0)))] := hD
    rcases hr_4117 with ⟨rfl, g_4119⟩ | ⟨rfl, g_4120, g_4121⟩ | ⟨rfl, g_4122, g_4123, g_4124, g_4125⟩ | ⟨rfl, g_4126, g_4127, g_4128, g_4129, g_4130, g_4131, g_4132, g_4133⟩ | ⟨rfl, g_4134, g_4135, g_4136, g_4137, g_4138, g_4139, g_4140, g_4141⟩ | ⟨rfl, g_4142, g_4143, g_4144, g_4145, g_4146, g_4147, g_4148, g_4149, g_4150⟩ | ⟨rfl, g_4151, g_4152, g_4153, g_4154, g_4155, g_4156, g_4157, g_4158, g_4159, g_4160⟩ | ⟨rfl, g_4161, g_4162, g_4163, g_4164, g_4165, g_4166, g_4167, g_4168, g_4169, g_4170⟩ | ⟨rfl, g_4171, g_4172, g_4173, g_4174, g_4175, g_4176, g_4177, g_4178, g_4179, g_4180⟩ | ⟨rfl, g_4181, g_4182, g_4183, g_4184, g_4185, g_4186, g_4187, g_4188, g_4189, g_4190⟩ | ⟨rfl, g_4191, g_4192, g_4193, g_4194, g_4195, g_4196, g_4197, g_4198, g_4199⟩ | ⟨rfl, g_4200, g_4201, g_4202, g_4203, g_4204, g_4205, g_4206, g_4207, g_4208⟩ | ⟨rfl, g_4209, g_4210, g_4211, g_4212, g_4213, g_4214, g_4215, g_4216, g_4217⟩ | ⟨rfl, g_4218, g_4219, g_4220, g_4221, g_4222, g_4223, g_4224, g_4225, g_4226⟩ | ⟨rfl, g_4227, g_4228, g_4229, g_4230, g_4231, g_4232, g_4233⟩ | ⟨rfl, g_4234, g_4235, g_4236, g_4237, g_4238, g_4239, g_4240⟩ | ⟨rfl, g_4241, g_4242, g_4243, g_4244, g_4245, g_4246⟩ | ⟨rfl, g_4247, g_4248, g_4249, g_4250, g_4251, g_4252⟩ | ⟨rfl, g_4253, g_4254, g_4255, g_4256⟩ | ⟨rfl, g_4257, g_4258, g_4259, g_4260, g_4261⟩ | ⟨rfl, g_4262, g_4263, g_4264, g_4265, g_4266⟩
    · exfalso; omega
    · exfalso; omega
    · exfalso; omega
    · exfalso; omega
    · exfalso; omega
    · exfalso; omega
    · exfalso; omega
    · exfalso; omega
    · exfalso; omega
    · exfalso; omega
    · exfalso; omega
    · refine lv_icmp_eq (tgt := 1371) hx hb dL_law_711 (by decide) (fun c_4267 => ?_) (fun c_4267 => ?_)
      · refine lv_iinc (v := 6) (lv' := [(3, .int 6), (2, .ref m0), (1, .ref x0), (0, .ref b)]) hx hb dL_law_1371 hl (k := 0) rfl (by decide) (by decide) rfl (fun ls hl => ?_)
        refine lv_goto (tgt := 18) hx hb dL_law_1374 (by decide) ?_
        refine lv_iload_n hx hb dL_law_18 rfl (lv_at hl 0 rfl) ?_
        refine lv_aload_n hx hb dL_law_19 rfl (lv_at hl 3 rfl) ?_
        refine va_slen hx hb hX hbl hbA hS dL_law_20 ?_
        refine lv_topi (fun y_4268 ey_4268 => ?_)
        obtain rfl : y_4268 = 6 := ey_4268.trans (by decide)
        refine lv_bipush (v := 6) hx hb dL_law_21 (by decide) ?_
        refine lv_isub hx hb dL_law_23 ?_
        refine lv_topi (fun y_4269 ey_4269 => ?_)
        obtain rfl : y_4269 = 0 := ey_4269.trans (by decide)
        refine lv_icmp_gt (tgt := 1377) hx hb dL_law_24 (by decide) (fun c_4270 => ?_) (fun c_4270 => ?_)
        · refine lv_iconst (v := 1) hx hb dL_law_1377 (by decide) ?_
          refine va_forget (fun q hq => hS.2.2 q hq) ?_
          refine W.widen (k := 600000) (n := 7302250) (Nat.le_of_ble_eq_true rfl) (Nat.le_of_ble_eq_true rfl) ?_
          exact lw_ret hx hb hr hlocks dL_law_1378
        · exact absurd c_4270 (by decide)
      · exact absurd c_4267 (by decide)
    · exfalso; omega
    · exfalso; omega
    · exfalso; omega
    · exfalso; omega
    · exfalso; omega
    · exfalso; omega
    · exfalso; omega
    · exfalso; omega
    · exfalso; omega
  · refine lv_aload_n hx hb dL_law_697 rfl (lv_at hl 1 rfl) ?_
    refine lv_aload_n hx hb dL_law_698 rfl (lv_at hl 3 rfl) ?_
    refine lv_iload_n hx hb dL_law_699 rfl (lv_at hl 0 rfl) ?_
    refine lv_iconst (v := 1) hx hb dL_law_700 (by decide) ?_
    refine lv_iadd hx hb dL_law_701 ?_
    refine lv_topi (fun y_4271 ey_4271 => ?_)
    obtain rfl : y_4271 = 1 := ey_4271.trans (by decide)
    refine va_sld hx hb hX hbl hbA hS (zf_in (by decide) (by decide)) dL_law_702 ?_
    refine lv_topi (fun y_4272 ey_4272 => ?_)
    obtain rfl : a_3 = y_4272 := ea_3.trans ey_4272.symm
    refine lv_aload_n hx hb dL_law_703 rfl (lv_at hl 3 rfl) ?_
    refine lv_iload_n hx hb dL_law_704 rfl (lv_at hl 0 rfl) ?_
    refine lv_iconst (v := 2) hx hb dL_law_705 (by decide) ?_
    refine lv_iadd hx hb dL_law_706 ?_
    refine lv_topi (fun y_4273 ey_4273 => ?_)
    obtain rfl : y_4273 = 2 := ey_4273.trans (by decide)
    refine va_sld hx hb hX hbl hbA hS (zf_in (by decide) (by decide)) dL_law_707 ?_
    refine lv_topi (fun y_4274 ey_4274 => ?_)
    obtain rfl : a_6 = y_4274 := ea_6.trans ey_4274.symm
    skip
    refine zw_V (As := [.int a_3, .int a_6]) (rest := [.int (-6)]) (wr := [(mki, .inl (cI, 8, .inl (fun _ => 0))), (mpa, .inl (cI, 8, .inl (fun _ => 0))), (mta, .inl (cI, 8, .inl (fun _ => 0))), (mla, .inl (cI, 40, .inl (fun _ => 0))), (msl, .inl (cI, 40, .inl (fun _ => 0))), (mhe, .inl (cI, 8, .inl (fun _ => 0))), (mso, .inl (cI, 8, .inl (fun _ => 0))), (msi, .inl (cI, 8, .inl (fun _ => 0))), (msh, .inl (cI, 8, .inl (fun _ => 0))), (mce, .inl (cJ, 1280, .inr (.inl (fun _ => 0)))), (mca, .inl (cJ, 160, .inr (.inl (fun _ => 0)))), (mwo, .inl (cI, 64, .inl fw_)), (mnu, .inl (cI, 10, .inl fn_)), (mte, .inl (cI, 3, .inl (fun _ => 0))), (mwa, .inl (cI, 130, .inl (fun _ => 0))), (mke, .inl (cI, 130, .inl (fun _ => 0))), (mma, .inl (cI, 3, .inl (fun _ => 0))), (mth, .inl (cI, 3, .inl (fun _ => 0))), (mtr, .inl (cI, 20, .inl (fun _ => 0)))]) ⟨hx, hb, hml, hown, hts⟩ (c_M_ask l D cI cJ cZ cP cS m0 mrf mki mpa mta mla msl mco mhe mso msi msh mce mca mwo mnu mte mwa mke mma mth mtr (a_3) (a_6)  H.size) (cwV 2 hts gq_73 rfl rfl rfl (by decide +kernel) ⟨Nat.le_of_ble_eq_true rfl, Nat.le_of_ble_eq_true rfl⟩) hK hN (hZ.kept hS) hP hD hS hA [0, 1, 7] [2, 3, 4, 5, 6, 8, 9, 10, 11, 12, 13, 14, 15, 16, 17, 18, 19, 20, 21] rfl rfl (by decide) (by decide) (by decide) (va_recv hK hP (ci := 8) (q0 := 0) rfl rfl) rfl hl.1 rfl (Nat.le_of_ble_eq_true rfl) dL_law_708 ⟨Nat.le_of_ble_eq_true rfl, Nat.le_of_ble_eq_true rfl⟩ (fun r_4275 u_4276 H locs hr_4275 hP hD hS => ?_)
    replace hP : va_P D vwCl [(mki, .inl (cI, 8, .inl (fun _ => 0))), (mpa, .inl (cI, 8, .inl (fun _ => 0))), (mta, .inl (cI, 8, .inl (fun _ => 0))), (mla, .inl (cI, 40, .inl (fun _ => 0))), (msl, .inl (cI, 40, .inl (fun _ => 0))), (mhe, .inl (cI, 8, .inl (fun _ => 0))), (mso, .inl (cI, 8, .inl (fun _ => 0))), (msi, .inl (cI, 8, .inl (fun _ => 0))), (msh, .inl (cI, 8, .inl (fun _ => 0))), (mce, .inl (cJ, 1280, .inr (.inl (fun _ => 0)))), (mca, .inl (cJ, 160, .inr (.inl (fun _ => 0)))), (mwo, .inl (cI, 64, .inl fw_)), (mnu, .inl (cI, 10, .inl fn_)), (mte, .inl (cI, 3, .inl (fun _ => 0))), (mwa, .inl (cI, 130, .inl (fun _ => 0))), (mke, .inl (cI, 130, .inl (fun _ => 0))), (mma, .inl (cI, 3, .inl (fun _ => 0))), (mth, .inl (cI, 3, .inl (fun _ => 0))), (mtr, .inl (cI, 20, .inl (fun _ => 0)))] H := hP
    replace hD : va_D _ [(mki, .inl (cI, 8, .inl (fun _ => 0))), (mpa, .inl (cI, 8, .inl (fun _ => 0))), (mta, .inl (cI, 8, .inl (fun _ => 0))), (mla, .inl (cI, 40, .inl (fun _ => 0))), (msl, .inl (cI, 40, .inl (fun _ => 0))), (mhe, .inl (cI, 8, .inl (fun _ => 0))), (mso, .inl (cI, 8, .inl (fun _ => 0))), (msi, .inl (cI, 8, .inl (fun _ => 0))), (msh, .inl (cI, 8, .inl (fun _ => 0))), (mce, .inl (cJ, 1280, .inr (.inl (fun _ => 0)))), (mca, .inl (cJ, 160, .inr (.inl (fun _ => 0)))), (mwo, .inl (cI, 64, .inl fw_)), (mnu, .inl (cI, 10, .inl fn_)), (mte, .inl (cI, 3, .inl (fun _ => 0))), (mwa, .inl (cI, 130, .inl (fun _ => 0))), (mke, .inl (cI, 130, .inl (fun _ => 0))), (mma, .inl (cI, 3, .inl (fun _ => 0))), (mth, .inl (cI, 3, .inl (fun _ => 0))), (mtr, .inl (cI, 20, .inl (fun _ => 0)))] := hD
    rcases hr_4275 with ⟨rfl, g_4277⟩ | ⟨rfl, g_4278, g_4279⟩ | ⟨rfl, g_4280, g_4281, g_4282, g_4283⟩ | ⟨rfl, g_4284, g_4285, g_4286, g_4287, g_4288, g_4289, g_4290, g_4291⟩ | ⟨rfl, g_4292, g_4293, g_4294, g_4295, g_4296, g_4297, g_4298, g_4299⟩ | ⟨rfl, g_4300, g_4301, g_4302, g_4303, g_4304, g_4305, g_4306, g_4307, g_4308⟩ | ⟨rfl, g_4309, g_4310, g_4311, g_4312, g_4313, g_4314, g_4315, g_4316, g_4317, g_4318⟩ | ⟨rfl, g_4319, g_4320, g_4321, g_4322, g_4323, g_4324, g_4325, g_4326, g_4327, g_4328⟩ | ⟨rfl, g_4329, g_4330, g_4331, g_4332, g_4333, g_4334, g_4335, g_4336, g_4337, g_4338⟩ | ⟨rfl, g_4339, g_4340, g_4341, g_4342, g_4343, g_4344, g_4345, g_4346, g_4347, g_4348⟩ | ⟨rfl, g_4349, g_4350, g_4351, g_4352, g_4353, g_4354, g_4355, g_4356, g_4357⟩ | ⟨rfl, g_4358, g_4359, g_4360, g_4361, g_4362, g_4363, g_4364, g_4365, g_4366⟩ | ⟨rfl, g_4367, g_4368, g_4369, g_4370, g_4371, g_4372, g_4373, g_4374, g_4375⟩ | ⟨rfl, g_4376, g_4377, g_4378, g_4379, g_4380, g_4381, g_4382, g_4383, g_4384⟩ | ⟨rfl, g_4385, g_4386, g_4387, g_4388, g_4389, g_4390, g_4391⟩ | ⟨rfl, g_4392, g_4393, g_4394, g_4395, g_4396, g_4397, g_4398⟩ | ⟨rfl, g_4399, g_4400, g_4401, g_4402, g_4403, g_4404⟩ | ⟨rfl, g_4405, g_4406, g_4407, g_4408, g_4409, g_4410⟩ | ⟨rfl, g_4411, g_4412, g_4413, g_4414⟩ | ⟨rfl, g_4415, g_4416, g_4417, g_4418, g_4419⟩ | ⟨rfl, g_4420, g_4421, g_4422, g_4423, g_4424⟩
    · exfalso; omega
    · exfalso; omega
    · exfalso; omega
    · exfalso; omega
    · exfalso; omega
    · exfalso; omega
    · exfalso; omega
    · exfalso; omega
    · exfalso; omega
    · exfalso; omega
    · exfalso; omega
    · exfalso; omega
    · exfalso; omega
    · exfalso; omega
    · exfalso; omega
    · exfalso; omega
    · exfalso; omega
    · exfalso; omega
    · refine lv_icmp_eq (tgt := 1371) hx hb dL_law_711 (by decide) (fun c_4425 => ?_) (fun c_4425 => ?_)
      · refine lv_iinc (v := 6) (lv' := [(3, .int 6), (2, .ref m0), (1, .ref x0), (0, .ref b)]) hx hb dL_law_1371 hl (k := 0) rfl (by decide) (by decide) rfl (fun ls hl => ?_)
        refine lv_goto (tgt := 18) hx hb dL_law_1374 (by decide) ?_
        refine lv_iload_n hx hb dL_law_18 rfl (lv_at hl 0 rfl) ?_
        refine lv_aload_n hx hb dL_law_19 rfl (lv_at hl 3 rfl) ?_
        refine va_slen hx hb hX hbl hbA hS dL_law_20 ?_
        refine lv_topi (fun y_4426 ey_4426 => ?_)
        obtain rfl : y_4426 = 6 := ey_4426.trans (by decide)
        refine lv_bipush (v := 6) hx hb dL_law_21 (by decide) ?_
        refine lv_isub hx hb dL_law_23 ?_
        refine lv_topi (fun y_4427 ey_4427 => ?_)
        obtain rfl : y_4427 = 0 := ey_4427.trans (by decide)
        refine lv_icmp_gt (tgt := 1377) hx hb dL_law_24 (by decide) (fun c_4428 => ?_) (fun c_4428 => ?_)
        · refine lv_iconst (v := 1) hx hb dL_law_1377 (by decide) ?_
          refine va_forget (fun q hq => hS.2.2 q hq) ?_
          refine W.widen (k := 600000) (n := 7302250) (Nat.le_of_ble_eq_true rfl) (Nat.le_of_ble_eq_true rfl) ?_
          exact lw_ret hx hb hr hlocks dL_law_1378
        · exact absurd c_4428 (by decide)
      · exact absurd c_4425 (by decide)
    · exfalso; omega
    · exfalso; omega
  · refine lv_aload_n hx hb dL_law_697 rfl (lv_at hl 1 rfl) ?_
    refine lv_aload_n hx hb dL_law_698 rfl (lv_at hl 3 rfl) ?_
    refine lv_iload_n hx hb dL_law_699 rfl (lv_at hl 0 rfl) ?_
    refine lv_iconst (v := 1) hx hb dL_law_700 (by decide) ?_
    refine lv_iadd hx hb dL_law_701 ?_
    refine lv_topi (fun y_4429 ey_4429 => ?_)
    obtain rfl : y_4429 = 1 := ey_4429.trans (by decide)
    refine va_sld hx hb hX hbl hbA hS (zf_in (by decide) (by decide)) dL_law_702 ?_
    refine lv_topi (fun y_4430 ey_4430 => ?_)
    obtain rfl : a_3 = y_4430 := ea_3.trans ey_4430.symm
    refine lv_aload_n hx hb dL_law_703 rfl (lv_at hl 3 rfl) ?_
    refine lv_iload_n hx hb dL_law_704 rfl (lv_at hl 0 rfl) ?_
    refine lv_iconst (v := 2) hx hb dL_law_705 (by decide) ?_
    refine lv_iadd hx hb dL_law_706 ?_
    refine lv_topi (fun y_4431 ey_4431 => ?_)
    obtain rfl : y_4431 = 2 := ey_4431.trans (by decide)
    refine va_sld hx hb hX hbl hbA hS (zf_in (by decide) (by decide)) dL_law_707 ?_
    refine lv_topi (fun y_4432 ey_4432 => ?_)
    obtain rfl : a_6 = y_4432 := ea_6.trans ey_4432.symm
    skip
    refine zw_V (As := [.int a_3, .int a_6]) (rest := [.int (-6)]) (wr := [(mki, .inl (cI, 8, .inl (fun _ => 0))), (mpa, .inl (cI, 8, .inl (fun _ => 0))), (mta, .inl (cI, 8, .inl (fun _ => 0))), (mla, .inl (cI, 40, .inl (fun _ => 0))), (msl, .inl (cI, 40, .inl (fun _ => 0))), (mhe, .inl (cI, 8, .inl (fun _ => 0))), (mso, .inl (cI, 8, .inl (fun _ => 0))), (msi, .inl (cI, 8, .inl (fun _ => 0))), (msh, .inl (cI, 8, .inl (fun _ => 0))), (mce, .inl (cJ, 1280, .inr (.inl (fun _ => 0)))), (mca, .inl (cJ, 160, .inr (.inl (fun _ => 0)))), (mwo, .inl (cI, 64, .inl fw_)), (mnu, .inl (cI, 10, .inl fn_)), (mte, .inl (cI, 3, .inl (fun _ => 0))), (mwa, .inl (cI, 130, .inl (fun _ => 0))), (mke, .inl (cI, 130, .inl (fun _ => 0))), (mma, .inl (cI, 3, .inl (fun _ => 0))), (mth, .inl (cI, 3, .inl (fun _ => 0))), (mtr, .inl (cI, 20, .inl (fun _ => 0)))]) ⟨hx, hb, hml, hown, hts⟩ (c_M_ask l D cI cJ cZ cP cS m0 mrf mki mpa mta mla msl mco mhe mso msi msh mce mca mwo mnu mte mwa mke mma mth mtr (a_3) (a_6)  H.size) (cwV 2 hts gq_73 rfl rfl rfl (by decide +kernel) ⟨Nat.le_of_ble_eq_true rfl, Nat.le_of_ble_eq_true rfl⟩) hK hN (hZ.kept hS) hP hD hS hA [0, 1, 7] [2, 3, 4, 5, 6, 8, 9, 10, 11, 12, 13, 14, 15, 16, 17, 18, 19, 20, 21] rfl rfl (by decide) (by decide) (by decide) (va_recv hK hP (ci := 8) (q0 := 0) rfl rfl) rfl hl.1 rfl (Nat.le_of_ble_eq_true rfl) dL_law_708 ⟨Nat.le_of_ble_eq_true rfl, Nat.le_of_ble_eq_true rfl⟩ (fun r_4433 u_4434 H locs hr_4433 hP hD hS => ?_)
    replace hP : va_P D vwCl [(mki, .inl (cI, 8, .inl (fun _ => 0))), (mpa, .inl (cI, 8, .inl (fun _ => 0))), (mta, .inl (cI, 8, .inl (fun _ => 0))), (mla, .inl (cI, 40, .inl (fun _ => 0))), (msl, .inl (cI, 40, .inl (fun _ => 0))), (mhe, .inl (cI, 8, .inl (fun _ => 0))), (mso, .inl (cI, 8, .inl (fun _ => 0))), (msi, .inl (cI, 8, .inl (fun _ => 0))), (msh, .inl (cI, 8, .inl (fun _ => 0))), (mce, .inl (cJ, 1280, .inr (.inl (fun _ => 0)))), (mca, .inl (cJ, 160, .inr (.inl (fun _ => 0)))), (mwo, .inl (cI, 64, .inl fw_)), (mnu, .inl (cI, 10, .inl fn_)), (mte, .inl (cI, 3, .inl (fun _ => 0))), (mwa, .inl (cI, 130, .inl (fun _ => 0))), (mke, .inl (cI, 130, .inl (fun _ => 0))), (mma, .inl (cI, 3, .inl (fun _ => 0))), (mth, .inl (cI, 3, .inl (fun _ => 0))), (mtr, .inl (cI, 20, .inl (fun _ => 0)))] H := hP
    replace hD : va_D _ [(mki, .inl (cI, 8, .inl (fun _ => 0))), (mpa, .inl (cI, 8, .inl (fun _ => 0))), (mta, .inl (cI, 8, .inl (fun _ => 0))), (mla, .inl (cI, 40, .inl (fun _ => 0))), (msl, .inl (cI, 40, .inl (fun _ => 0))), (mhe, .inl (cI, 8, .inl (fun _ => 0))), (mso, .inl (cI, 8, .inl (fun _ => 0))), (msi, .inl (cI, 8, .inl (fun _ => 0))), (msh, .inl (cI, 8, .inl (fun _ => 0))), (mce, .inl (cJ, 1280, .inr (.inl (fun _ => 0)))), (mca, .inl (cJ, 160, .inr (.inl (fun _ => 0)))), (mwo, .inl (cI, 64, .inl fw_)), (mnu, .inl (cI, 10, .inl fn_)), (mte, .inl (cI, 3, .inl (fun _ => 0))), (mwa, .inl (cI, 130, .inl (fun _ => 0))), (mke, .inl (cI, 130, .inl (fun _ => 0))), (mma, .inl (cI, 3, .inl (fun _ => 0))), (mth, .inl (cI, 3, .inl (fun _ => 0))), (mtr, .inl (cI, 20, .inl (fun _ => 0)))] := hD
    rcases hr_4433 with ⟨rfl, g_4435⟩ | ⟨rfl, g_4436, g_4437⟩ | ⟨rfl, g_4438, g_4439, g_4440, g_4441⟩ | ⟨rfl, g_4442, g_4443, g_4444, g_4445, g_4446, g_4447, g_4448, g_4449⟩ | ⟨rfl, g_4450, g_4451, g_4452, g_4453, g_4454, g_4455, g_4456, g_4457⟩ | ⟨rfl, g_4458, g_4459, g_4460, g_4461, g_4462, g_4463, g_4464, g_4465, g_4466⟩ | ⟨rfl, g_4467, g_4468, g_4469, g_4470, g_4471, g_4472, g_4473, g_4474, g_4475, g_4476⟩ | ⟨rfl, g_4477, g_4478, g_4479, g_4480, g_4481, g_4482, g_4483, g_4484, g_4485, g_4486⟩ | ⟨rfl, g_4487, g_4488, g_4489, g_4490, g_4491, g_4492, g_4493, g_4494, g_4495, g_4496⟩ | ⟨rfl, g_4497, g_4498, g_4499, g_4500, g_4501, g_4502, g_4503, g_4504, g_4505, g_4506⟩ | ⟨rfl, g_4507, g_4508, g_4509, g_4510, g_4511, g_4512, g_4513, g_4514, g_4515⟩ | ⟨rfl, g_4516, g_4517, g_4518, g_4519, g_4520, g_4521, g_4522, g_4523, g_4524⟩ | ⟨rfl, g_4525, g_4526, g_4527, g_4528, g_4529, g_4530, g_4531, g_4532, g_4533⟩ | ⟨rfl, g_4534, g_4535, g_4536, g_4537, g_4538, g_4539, g_4540, g_4541, g_4542⟩ | ⟨rfl, g_4543, g_4544, g_4545, g_4546, g_4547, g_4548, g_4549⟩ | ⟨rfl, g_4550, g_4551, g_4552, g_4553, g_4554, g_4555, g_4556⟩ | ⟨rfl, g_4557, g_4558, g_4559, g_4560, g_4561, g_4562⟩ | ⟨rfl, g_4563, g_4564, g_4565, g_4566, g_4567, g_4568⟩ | ⟨rfl, g_4569, g_4570, g_4571, g_4572⟩ | ⟨rfl, g_4573, g_4574, g_4575, g_4576, g_4577⟩ | ⟨rfl, g_4578, g_4579, g_4580, g_4581, g_4582⟩
    · exfalso; omega
    · exfalso; omega
    · exfalso; omega
    · exfalso; omega
    · exfalso; omega
    · exfalso; omega
    · exfalso; omega
    · exfalso; omega
    · exfalso; omega
    · exfalso; omega
    · exfalso; omega
    · exfalso; omega
    · exfalso; omega
    · exfalso; omega
    · exfalso; omega
    · exfalso; omega
    · exfalso; omega
    · exfalso; omega
    · exfalso; omega
    · refine lv_icmp_eq (tgt := 1371) hx hb dL_law_711 (by decide) (fun c_4583 => ?_) (fun c_4583 => ?_)
      · refine lv_iinc (v := 6) (lv' := [(3, .int 6), (2, .ref m0), (1, .ref x0), (0, .ref b)]) hx hb dL_law_1371 hl (k := 0) rfl (by decide) (by decide) rfl (fun ls hl => ?_)
        refine lv_goto (tgt := 18) hx hb dL_law_1374 (by decide) ?_
        refine lv_iload_n hx hb dL_law_18 rfl (lv_at hl 0 rfl) ?_
        refine lv_aload_n hx hb dL_law_19 rfl (lv_at hl 3 rfl) ?_
        refine va_slen hx hb hX hbl hbA hS dL_law_20 ?_
        refine lv_topi (fun y_4584 ey_4584 => ?_)
        obtain rfl : y_4584 = 6 := ey_4584.trans (by decide)
        refine lv_bipush (v := 6) hx hb dL_law_21 (by decide) ?_
        refine lv_isub hx hb dL_law_23 ?_
        refine lv_topi (fun y_4585 ey_4585 => ?_)
        obtain rfl : y_4585 = 0 := ey_4585.trans (by decide)
        refine lv_icmp_gt (tgt := 1377) hx hb dL_law_24 (by decide) (fun c_4586 => ?_) (fun c_4586 => ?_)
        · refine lv_iconst (v := 1) hx hb dL_law_1377 (by decide) ?_
          refine va_forget (fun q hq => hS.2.2 q hq) ?_
          refine W.widen (k := 600000) (n := 7302250) (Nat.le_of_ble_eq_true rfl) (Nat.le_of_ble_eq_true rfl) ?_
          exact lw_ret hx hb hr hlocks dL_law_1378
        · exact absurd c_4586 (by decide)
      · exact absurd c_4583 (by decide)
    · exfalso; omega
  · refine lv_aload_n hx hb dL_law_697 rfl (lv_at hl 1 rfl) ?_
    refine lv_aload_n hx hb dL_law_698 rfl (lv_at hl 3 rfl) ?_
    refine lv_iload_n hx hb dL_law_699 rfl (lv_at hl 0 rfl) ?_
    refine lv_iconst (v := 1) hx hb dL_law_700 (by decide) ?_
    refine lv_iadd hx hb dL_law_701 ?_
    refine lv_topi (fun y_4587 ey_4587 => ?_)
    obtain rfl : y_4587 = 1 := ey_4587.trans (by decide)
    refine va_sld hx hb hX hbl hbA hS (zf_in (by decide) (by decide)) dL_law_702 ?_
    refine lv_topi (fun y_4588 ey_4588 => ?_)
    obtain rfl : a_3 = y_4588 := ea_3.trans ey_4588.symm
    refine lv_aload_n hx hb dL_law_703 rfl (lv_at hl 3 rfl) ?_
    refine lv_iload_n hx hb dL_law_704 rfl (lv_at hl 0 rfl) ?_
    refine lv_iconst (v := 2) hx hb dL_law_705 (by decide) ?_
    refine lv_iadd hx hb dL_law_706 ?_
    refine lv_topi (fun y_4589 ey_4589 => ?_)
    obtain rfl : y_4589 = 2 := ey_4589.trans (by decide)
    refine va_sld hx hb hX hbl hbA hS (zf_in (by decide) (by decide)) dL_law_707 ?_
    refine lv_topi (fun y_4590 ey_4590 => ?_)
    obtain rfl : a_6 = y_4590 := ea_6.trans ey_4590.symm
    skip
    refine zw_V (As := [.int a_3, .int a_6]) (rest := [.int 3]) (wr := [(mki, .inl (cI, 8, .inl (fun _ => 0))), (mpa, .inl (cI, 8, .inl (fun _ => 0))), (mta, .inl (cI, 8, .inl (fun _ => 0))), (mla, .inl (cI, 40, .inl (fun _ => 0))), (msl, .inl (cI, 40, .inl (fun _ => 0))), (mhe, .inl (cI, 8, .inl (fun _ => 0))), (mso, .inl (cI, 8, .inl (fun _ => 0))), (msi, .inl (cI, 8, .inl (fun _ => 0))), (msh, .inl (cI, 8, .inl (fun _ => 0))), (mce, .inl (cJ, 1280, .inr (.inl (fun _ => 0)))), (mca, .inl (cJ, 160, .inr (.inl (fun _ => 0)))), (mwo, .inl (cI, 64, .inl fw_)), (mnu, .inl (cI, 10, .inl fn_)), (mte, .inl (cI, 3, .inl (fun _ => 0))), (mwa, .inl (cI, 130, .inl (fun _ => 0))), (mke, .inl (cI, 130, .inl (fun _ => 0))), (mma, .inl (cI, 3, .inl (fun _ => 0))), (mth, .inl (cI, 3, .inl (fun _ => 0))), (mtr, .inl (cI, 20, .inl (fun _ => 0)))]) ⟨hx, hb, hml, hown, hts⟩ (c_M_ask l D cI cJ cZ cP cS m0 mrf mki mpa mta mla msl mco mhe mso msi msh mce mca mwo mnu mte mwa mke mma mth mtr (a_3) (a_6)  H.size) (cwV 2 hts gq_73 rfl rfl rfl (by decide +kernel) ⟨Nat.le_of_ble_eq_true rfl, Nat.le_of_ble_eq_true rfl⟩) hK hN (hZ.kept hS) hP hD hS hA [0, 1, 7] [2, 3, 4, 5, 6, 8, 9, 10, 11, 12, 13, 14, 15, 16, 17, 18, 19, 20, 21] rfl rfl (by decide) (by decide) (by decide) (va_recv hK hP (ci := 8) (q0 := 0) rfl rfl) rfl hl.1 rfl (Nat.le_of_ble_eq_true rfl) dL_law_708 ⟨Nat.le_of_ble_eq_true rfl, Nat.le_of_ble_eq_true rfl⟩ (fun r_4591 u_4592 H locs hr_4591 hP hD hS => ?_)
    replace hP : va_P D vwCl [(mki, .inl (cI, 8, .inl (fun _ => 0))), (mpa, .inl (cI, 8, .inl (fun _ => 0))), (mta, .inl (cI, 8, .inl (fun _ => 0))), (mla, .inl (cI, 40, .inl (fun _ => 0))), (msl, .inl (cI, 40, .inl (fun _ => 0))), (mhe, .inl (cI, 8, .inl (fun _ => 0))), (mso, .inl (cI, 8, .inl (fun _ => 0))), (msi, .inl (cI, 8, .inl (fun _ => 0))), (msh, .inl (cI, 8, .inl (fun _ => 0))), (mce, .inl (cJ, 1280, .inr (.inl (fun _ => 0)))), (mca, .inl (cJ, 160, .inr (.inl (fun _ => 0)))), (mwo, .inl (cI, 64, .inl fw_)), (mnu, .inl (cI, 10, .inl fn_)), (mte, .inl (cI, 3, .inl (fun _ => 0))), (mwa, .inl (cI, 130, .inl (fun _ => 0))), (mke, .inl (cI, 130, .inl (fun _ => 0))), (mma, .inl (cI, 3, .inl (fun _ => 0))), (mth, .inl (cI, 3, .inl (fun _ => 0))), (mtr, .inl (cI, 20, .inl (fun _ => 0)))] H := hP
    replace hD : va_D _ [(mki, .inl (cI, 8, .inl (fun _ => 0))), (mpa, .inl (cI, 8, .inl (fun _ => 0))), (mta, .inl (cI, 8, .inl (fun _ => 0))), (mla, .inl (cI, 40, .inl (fun _ => 0))), (msl, .inl (cI, 40, .inl (fun _ => 0))), (mhe, .inl (cI, 8, .inl (fun _ => 0))), (mso, .inl (cI, 8, .inl (fun _ => 0))), (msi, .inl (cI, 8, .inl (fun _ => 0))), (msh, .inl (cI, 8, .inl (fun _ => 0))), (mce, .inl (cJ, 1280, .inr (.inl (fun _ => 0)))), (mca, .inl (cJ, 160, .inr (.inl (fun _ => 0)))), (mwo, .inl (cI, 64, .inl fw_)), (mnu, .inl (cI, 10, .inl fn_)), (mte, .inl (cI, 3, .inl (fun _ => 0))), (mwa, .inl (cI, 130, .inl (fun _ => 0))), (mke, .inl (cI, 130, .inl (fun _ => 0))), (mma, .inl (cI, 3, .inl (fun _ => 0))), (mth, .inl (cI, 3, .inl (fun _ => 0))), (mtr, .inl (cI, 20, .inl (fun _ => 0)))] := hD
    rcases hr_4591 with ⟨rfl, g_4593⟩ | ⟨rfl, g_4594, g_4595⟩ | ⟨rfl, g_4596, g_4597, g_4598, g_4599⟩ | ⟨rfl, g_4600, g_4601, g_4602, g_4603, g_4604, g_4605, g_4606, g_4607⟩ | ⟨rfl, g_4608, g_4609, g_4610, g_4611, g_4612, g_4613, g_4614, g_4615⟩ | ⟨rfl, g_4616, g_4617, g_4618, g_4619, g_4620, g_4621, g_4622, g_4623, g_4624⟩ | ⟨rfl, g_4625, g_4626, g_4627, g_4628, g_4629, g_4630, g_4631, g_4632, g_4633, g_4634⟩ | ⟨rfl, g_4635, g_4636, g_4637, g_4638, g_4639, g_4640, g_4641, g_4642, g_4643, g_4644⟩ | ⟨rfl, g_4645, g_4646, g_4647, g_4648, g_4649, g_4650, g_4651, g_4652, g_4653, g_4654⟩ | ⟨rfl, g_4655, g_4656, g_4657, g_4658, g_4659, g_4660, g_4661, g_4662, g_4663, g_4664⟩ | ⟨rfl, g_4665, g_4666, g_4667, g_4668, g_4669, g_4670, g_4671, g_4672, g_4673⟩ | ⟨rfl, g_4674, g_4675, g_4676, g_4677, g_4678, g_4679, g_4680, g_4681, g_4682⟩ | ⟨rfl, g_4683, g_4684, g_4685, g_4686, g_4687, g_4688, g_4689, g_4690, g_4691⟩ | ⟨rfl, g_4692, g_4693, g_4694, g_4695, g_4696, g_4697, g_4698, g_4699, g_4700⟩ | ⟨rfl, g_4701, g_4702, g_4703, g_4704, g_4705, g_4706, g_4707⟩ | ⟨rfl, g_4708, g_4709, g_4710, g_4711, g_4712, g_4713, g_4714⟩ | ⟨rfl, g_4715, g_4716, g_4717, g_4718, g_4719, g_4720⟩ | ⟨rfl, g_4721, g_4722, g_4723, g_4724, g_4725, g_4726⟩ | ⟨rfl, g_4727, g_4728, g_4729, g_4730⟩ | ⟨rfl, g_4731, g_4732, g_4733, g_4734, g_4735⟩ | ⟨rfl, g_4736, g_4737, g_4738, g_4739, g_4740⟩
    · exfalso; omega
    · exfalso; omega
    · exfalso; omega
    · exfalso; omega
    · exfalso; omega
    · exfalso; omega
    · exfalso; omega
    · exfalso; omega
    · exfalso; omega
    · exfalso; omega
    · exfalso; omega
    · exfalso; omega
    · exfalso; omega
    · exfalso; omega
    · exfalso; omega
    · exfalso; omega
    · exfalso; omega
    · exfalso; omega
    · exfalso; omega
    · exfalso; omega
    · refine lv_icmp_eq (tgt := 1371) hx hb dL_law_711 (by decide) (fun c_4741 => ?_) (fun c_4741 => ?_)
      · refine lv_iinc (v := 6) (lv' := [(3, .int 6), (2, .ref m0), (1, .ref x0), (0, .ref b)]) hx hb dL_law_1371 hl (k := 0) rfl (by decide) (by decide) rfl (fun ls hl => ?_)
        refine lv_goto (tgt := 18) hx hb dL_law_1374 (by decide) ?_
        refine lv_iload_n hx hb dL_law_18 rfl (lv_at hl 0 rfl) ?_
        refine lv_aload_n hx hb dL_law_19 rfl (lv_at hl 3 rfl) ?_
        refine va_slen hx hb hX hbl hbA hS dL_law_20 ?_
        refine lv_topi (fun y_4742 ey_4742 => ?_)
        obtain rfl : y_4742 = 6 := ey_4742.trans (by decide)
        refine lv_bipush (v := 6) hx hb dL_law_21 (by decide) ?_
        refine lv_isub hx hb dL_law_23 ?_
        refine lv_topi (fun y_4743 ey_4743 => ?_)
        obtain rfl : y_4743 = 0 := ey_4743.trans (by decide)
        refine lv_icmp_gt (tgt := 1377) hx hb dL_law_24 (by decide) (fun c_4744 => ?_) (fun c_4744 => ?_)
        · refine lv_iconst (v := 1) hx hb dL_law_1377 (by decide) ?_
          refine va_forget (fun q hq => hS.2.2 q hq) ?_
          refine W.widen (k := 600000) (n := 7302250) (Nat.le_of_ble_eq_true rfl) (Nat.le_of_ble_eq_true rfl) ?_
          exact lw_ret hx hb hr hlocks dL_law_1378
        · exact absurd c_4744 (by decide)
      · exact absurd c_4741 (by decide)
