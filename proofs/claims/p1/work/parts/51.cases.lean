set_option maxHeartbeats 8000000 in
set_option maxRecDepth 100000 in
theorem law_case_4 {p : Program} {l : Launch} {e : Env} {s : State} {m : MethodId} {below : List Frame} {meth : Method} {c : Code} {D : va_G} {cI cJ cZ cP cS : ClassId} {b : Nat} {xs_ : Nat → Int32} (x0 xs j0 k0 w0 rd mv xr z0 jp jc zl zs kz kp kc kzl kzs wk wl wc wp ri rl mb m0 mrf mki mpa mta mla msl mco mhe mso msi msh mce mca mwo mnu mte mwa mke mma mth mtr : Nat) (sh el : Nat → Nat) (fw_ fn_ : Nat → Int32) (C0 : lw_At p s m meth c b 6 xs_) (hK : va_K D vwCl (zKT cI cJ cZ cP cS) s) (hN : zN s) (hZ : zSt (fun q : Nat => s.heap.size ≤ q) s s.heap) (H : Heap) (locs : List Loc) (hP : va_P D vwCl (zLW cI cJ cZ cP cS x0 xs j0 k0 w0 rd mv xr z0 jp jc zl zs kz kp kc kzl kzs wk wl wc wp ri rl mb m0 mrf mki mpa mta mla msl mco mhe mso msi msh mce mca mwo mnu mte mwa mke mma mth mtr sh el fw_ fn_) H) (hD : va_D (fun q : Nat => s.heap.size ≤ q) (zLW cI cJ cZ cP cS x0 xs j0 k0 w0 rd mv xr z0 jp jc zl zs kz kp kc kzl kzs wk wl wc wp ri rl mb m0 mrf mki mpa mta mla msl mco mhe mso msi msh mce mca mwo mnu mte mwa mke mma mth mtr sh el fw_ fn_)) (hS : va_S (fun q : Nat => s.heap.size ≤ q) s.heap H locs) (ls : Array Slot) (hl : lv_has ls 4 [(3, .int 0), (2, .ref m0), (1, .ref x0), (0, .ref b)]) : W p l e room_1 s m #[Value.ref b] below meth c H locs 100 10000 (lw_Z below #[Value.ref b] s) (F0 m 413 ls []) := by
  obtain ⟨hx, hb, hr, hml, hown0, hts, hX, hbl, hlocks, hgv⟩ := id C0
  have hown : s.vm.findClass RL = some m.cls := hown0
  have hA : ∀ q : Nat, s.heap.size ≤ q → (fun q : Nat => s.heap.size ≤ q) q := fun _ h => h
  have hbA : ¬ (fun q : Nat => s.heap.size ≤ q) b := Nat.not_le.mpr hbl
  replace hP : va_P D vwCl ((x0, .inr (7, [.ref xs, .ref j0, .ref k0, .ref w0, .ref rd, .ref mv, .ref xr, .int 0, .int (-1)])) :: (xs, .inl (cS, 8, .inr (.inr (.inr (.inr (zS sh)))))) :: (j0, .inr (0, [.ref z0, .ref jp, .ref jc, .int 0, .int 0, .int 0, .int 60, .int 0, .int 1])) :: (z0, .inr (6, [.ref zl, .ref zs, .int 20, .int 0, .int 3])) :: (zl, .inl (cZ, 40, .inl (fun _ => 0))) :: (zs, .inl (cI, 40, .inl (fun _ => 0))) :: (jp, .inl (cP, 8, .inr (.inr (.inr (.inr (fun _ => none)))))) :: (jc, .inl (cI, 3, .inl (zL3 5 10 50))) :: (k0, .inr (0, [.ref kz, .ref kp, .ref kc, .int 0, .int 0, .int 0, .int 60, .int 0, .int 1])) :: (kz, .inr (6, [.ref kzl, .ref kzs, .int 20, .int 0, .int 3])) :: (kzl, .inl (cZ, 40, .inl (fun _ => 0))) :: (kzs, .inl (cI, 40, .inl (fun _ => 0))) :: (kp, .inl (cP, 8, .inr (.inr (.inr (.inr (fun _ => none)))))) :: (kc, .inl (cI, 3, .inl (zL3 5 10 50))) :: (w0, .inr (5, [.ref wk, .ref wl, .ref wc, .ref wp, .int 0, .int 0, .int 0])) :: (wk, .inl (cI, 125, .inl (fun _ => 0))) :: (wl, .inl (cI, 125, .inl (fun _ => 0))) :: (wc, .inl (cI, 3, .inl (fun _ => 0))) :: (wp, .inl (cP, 8, .inr (.inr (.inr (.inr (fun _ => none)))))) :: (rd, .inr (3, [.ref ri, .ref rl, .int 0, .int 0, .int 0, .int (-1), .int 0, .int 0])) :: (ri, .inl (cI, 132, .inl (fun _ => 0))) :: (rl, .inl (cI, 160, .inl (fun _ => 0))) :: (mv, .inr (1, [.ref mb, .int 0, .int 0, .int 0, .int 0])) :: (mb, .inl (cI, 20, .inl (fun _ => 0))) :: (xr, .inl (cI, 8, .inl (fun _ => 0))) :: ((sh 0), .inr (4, [.ref (el 0), .int (-1), .int 0])) :: ((el 0), .inl (cJ, 160, .inr (.inl (fun _ => 0)))) :: ((sh 1), .inr (4, [.ref (el 1), .int (-1), .int 0])) :: ((el 1), .inl (cJ, 160, .inr (.inl (fun _ => 0)))) :: ((sh 2), .inr (4, [.ref (el 2), .int (-1), .int 0])) :: ((el 2), .inl (cJ, 160, .inr (.inl (fun _ => 0)))) :: ((sh 3), .inr (4, [.ref (el 3), .int (-1), .int 0])) :: ((el 3), .inl (cJ, 160, .inr (.inl (fun _ => 0)))) :: ((sh 4), .inr (4, [.ref (el 4), .int (-1), .int 0])) :: ((el 4), .inl (cJ, 160, .inr (.inl (fun _ => 0)))) :: ((sh 5), .inr (4, [.ref (el 5), .int (-1), .int 0])) :: ((el 5), .inl (cJ, 160, .inr (.inl (fun _ => 0)))) :: ((sh 6), .inr (4, [.ref (el 6), .int (-1), .int 0])) :: ((el 6), .inl (cJ, 160, .inr (.inl (fun _ => 0)))) :: ((sh 7), .inr (4, [.ref (el 7), .int (-1), .int 0])) :: ((el 7), .inl (cJ, 160, .inr (.inl (fun _ => 0)))) :: (m0, .inr (8, (.int 0 :: .int 20 :: .int 0 :: .int 0 :: .int 0 :: .int 60 :: .int 0 :: .int 3 :: .int 1 :: .int (-1) :: .ref mrf :: .ref mki :: .ref mpa :: .ref mta :: .ref mla :: .ref msl :: .ref mco :: .ref mhe :: .ref mso :: .ref msi :: .ref msh :: .ref mce :: .ref mca :: .ref mwo :: .ref mnu :: .ref mte :: .int 0 :: .int 0 :: .int 0 :: .int 0 :: .int 0 :: .ref mwa :: .ref mke :: .ref mma :: .ref mth :: .ref mtr :: .int 0 :: .int 0 :: []))) :: (mrf, .inl (cI, 8, .inl (fun _ => 0))) :: (mki, .inl (cI, 8, .inl (fun _ => 0))) :: (mpa, .inl (cI, 8, .inl (fun _ => 0))) :: (mta, .inl (cI, 8, .inl (fun _ => 0))) :: (mla, .inl (cI, 40, .inl (fun _ => 0))) :: (msl, .inl (cI, 40, .inl (fun _ => 0))) :: (mco, .inl (cI, 3, .inl (zL3 5 10 50))) :: (mhe, .inl (cI, 8, .inl (fun _ => 0))) :: (mso, .inl (cI, 8, .inl (fun _ => 0))) :: (msi, .inl (cI, 8, .inl (fun _ => 0))) :: (msh, .inl (cI, 8, .inl (fun _ => 0))) :: (mce, .inl (cJ, 1280, .inr (.inl (fun _ => 0)))) :: (mca, .inl (cJ, 160, .inr (.inl (fun _ => 0)))) :: (mwo, .inl (cI, 64, .inl fw_)) :: (mnu, .inl (cI, 10, .inl fn_)) :: (mte, .inl (cI, 3, .inl (fun _ => 0))) :: (mwa, .inl (cI, 130, .inl (fun _ => 0))) :: (mke, .inl (cI, 130, .inl (fun _ => 0))) :: (mma, .inl (cI, 3, .inl (fun _ => 0))) :: (mth, .inl (cI, 3, .inl (fun _ => 0))) :: (mtr, .inl (cI, 20, .inl (fun _ => 0))) :: []) H := hP
  replace hD : va_D _ ((x0, .inr (7, [.ref xs, .ref j0, .ref k0, .ref w0, .ref rd, .ref mv, .ref xr, .int 0, .int (-1)])) :: (xs, .inl (cS, 8, .inr (.inr (.inr (.inr (zS sh)))))) :: (j0, .inr (0, [.ref z0, .ref jp, .ref jc, .int 0, .int 0, .int 0, .int 60, .int 0, .int 1])) :: (z0, .inr (6, [.ref zl, .ref zs, .int 20, .int 0, .int 3])) :: (zl, .inl (cZ, 40, .inl (fun _ => 0))) :: (zs, .inl (cI, 40, .inl (fun _ => 0))) :: (jp, .inl (cP, 8, .inr (.inr (.inr (.inr (fun _ => none)))))) :: (jc, .inl (cI, 3, .inl (zL3 5 10 50))) :: (k0, .inr (0, [.ref kz, .ref kp, .ref kc, .int 0, .int 0, .int 0, .int 60, .int 0, .int 1])) :: (kz, .inr (6, [.ref kzl, .ref kzs, .int 20, .int 0, .int 3])) :: (kzl, .inl (cZ, 40, .inl (fun _ => 0))) :: (kzs, .inl (cI, 40, .inl (fun _ => 0))) :: (kp, .inl (cP, 8, .inr (.inr (.inr (.inr (fun _ => none)))))) :: (kc, .inl (cI, 3, .inl (zL3 5 10 50))) :: (w0, .inr (5, [.ref wk, .ref wl, .ref wc, .ref wp, .int 0, .int 0, .int 0])) :: (wk, .inl (cI, 125, .inl (fun _ => 0))) :: (wl, .inl (cI, 125, .inl (fun _ => 0))) :: (wc, .inl (cI, 3, .inl (fun _ => 0))) :: (wp, .inl (cP, 8, .inr (.inr (.inr (.inr (fun _ => none)))))) :: (rd, .inr (3, [.ref ri, .ref rl, .int 0, .int 0, .int 0, .int (-1), .int 0, .int 0])) :: (ri, .inl (cI, 132, .inl (fun _ => 0))) :: (rl, .inl (cI, 160, .inl (fun _ => 0))) :: (mv, .inr (1, [.ref mb, .int 0, .int 0, .int 0, .int 0])) :: (mb, .inl (cI, 20, .inl (fun _ => 0))) :: (xr, .inl (cI, 8, .inl (fun _ => 0))) :: ((sh 0), .inr (4, [.ref (el 0), .int (-1), .int 0])) :: ((el 0), .inl (cJ, 160, .inr (.inl (fun _ => 0)))) :: ((sh 1), .inr (4, [.ref (el 1), .int (-1), .int 0])) :: ((el 1), .inl (cJ, 160, .inr (.inl (fun _ => 0)))) :: ((sh 2), .inr (4, [.ref (el 2), .int (-1), .int 0])) :: ((el 2), .inl (cJ, 160, .inr (.inl (fun _ => 0)))) :: ((sh 3), .inr (4, [.ref (el 3), .int (-1), .int 0])) :: ((el 3), .inl (cJ, 160, .inr (.inl (fun _ => 0)))) :: ((sh 4), .inr (4, [.ref (el 4), .int (-1), .int 0])) :: ((el 4), .inl (cJ, 160, .inr (.inl (fun _ => 0)))) :: ((sh 5), .inr (4, [.ref (el 5), .int (-1), .int 0])) :: ((el 5), .inl (cJ, 160, .inr (.inl (fun _ => 0)))) :: ((sh 6), .inr (4, [.ref (el 6), .int (-1), .int 0])) :: ((el 6), .inl (cJ, 160, .inr (.inl (fun _ => 0)))) :: ((sh 7), .inr (4, [.ref (el 7), .int (-1), .int 0])) :: ((el 7), .inl (cJ, 160, .inr (.inl (fun _ => 0)))) :: (m0, .inr (8, (.int 0 :: .int 20 :: .int 0 :: .int 0 :: .int 0 :: .int 60 :: .int 0 :: .int 3 :: .int 1 :: .int (-1) :: .ref mrf :: .ref mki :: .ref mpa :: .ref mta :: .ref mla :: .ref msl :: .ref mco :: .ref mhe :: .ref mso :: .ref msi :: .ref msh :: .ref mce :: .ref mca :: .ref mwo :: .ref mnu :: .ref mte :: .int 0 :: .int 0 :: .int 0 :: .int 0 :: .int 0 :: .ref mwa :: .ref mke :: .ref mma :: .ref mth :: .ref mtr :: .int 0 :: .int 0 :: []))) :: (mrf, .inl (cI, 8, .inl (fun _ => 0))) :: (mki, .inl (cI, 8, .inl (fun _ => 0))) :: (mpa, .inl (cI, 8, .inl (fun _ => 0))) :: (mta, .inl (cI, 8, .inl (fun _ => 0))) :: (mla, .inl (cI, 40, .inl (fun _ => 0))) :: (msl, .inl (cI, 40, .inl (fun _ => 0))) :: (mco, .inl (cI, 3, .inl (zL3 5 10 50))) :: (mhe, .inl (cI, 8, .inl (fun _ => 0))) :: (mso, .inl (cI, 8, .inl (fun _ => 0))) :: (msi, .inl (cI, 8, .inl (fun _ => 0))) :: (msh, .inl (cI, 8, .inl (fun _ => 0))) :: (mce, .inl (cJ, 1280, .inr (.inl (fun _ => 0)))) :: (mca, .inl (cJ, 160, .inr (.inl (fun _ => 0)))) :: (mwo, .inl (cI, 64, .inl fw_)) :: (mnu, .inl (cI, 10, .inl fn_)) :: (mte, .inl (cI, 3, .inl (fun _ => 0))) :: (mwa, .inl (cI, 130, .inl (fun _ => 0))) :: (mke, .inl (cI, 130, .inl (fun _ => 0))) :: (mma, .inl (cI, 3, .inl (fun _ => 0))) :: (mth, .inl (cI, 3, .inl (fun _ => 0))) :: (mtr, .inl (cI, 20, .inl (fun _ => 0))) :: []) := hD
  refine lv_aload_n hx hb dL_law_413 rfl (lv_at hl 2 rfl) ?_
  refine lv_aload_n hx hb dL_law_414 rfl (lv_at hl 3 rfl) ?_
  refine lv_iload_n hx hb dL_law_415 rfl (lv_at hl 0 rfl) ?_
  refine lv_iconst (v := 1) hx hb dL_law_416 (by decide) ?_
  refine lv_iadd hx hb dL_law_417 ?_
  refine lv_topi (fun y_1 ey_1 => ?_)
  obtain rfl : y_1 = 1 := ey_1.trans (by decide)
  refine va_sld hx hb hX hbl hbA hS (zf_in (by decide) (by decide)) dL_law_418 ?_
  refine lv_topi (fun a_3 ea_3 => ?_)
  refine lv_aload_n hx hb dL_law_419 rfl (lv_at hl 3 rfl) ?_
  refine lv_iload_n hx hb dL_law_420 rfl (lv_at hl 0 rfl) ?_
  refine lv_iconst (v := 2) hx hb dL_law_421 (by decide) ?_
  refine lv_iadd hx hb dL_law_422 ?_
  refine lv_topi (fun y_4 ey_4 => ?_)
  obtain rfl : y_4 = 2 := ey_4.trans (by decide)
  refine va_sld hx hb hX hbl hbA hS (zf_in (by decide) (by decide)) dL_law_423 ?_
  refine lv_topi (fun a_6 ea_6 => ?_)
  skip
  refine zw_V (As := [.int a_3, .int a_6]) (rest := []) (wr := ((m0, .inr (8, (.int 0 :: .int 20 :: .int 0 :: .int 0 :: .int 0 :: .int 60 :: .int 0 :: .int 3 :: .int 1 :: .int (-1) :: .ref mrf :: .ref mki :: .ref mpa :: .ref mta :: .ref mla :: .ref msl :: .ref mco :: .ref mhe :: .ref mso :: .ref msi :: .ref msh :: .ref mce :: .ref mca :: .ref mwo :: .ref mnu :: .ref mte :: .int 0 :: .int 0 :: .int 0 :: .int 0 :: .int 0 :: .ref mwa :: .ref mke :: .ref mma :: .ref mth :: .ref mtr :: .int 0 :: .int 0 :: []))) :: (mrf, .inl (cI, 8, .inl (fun _ => 0))) :: (mki, .inl (cI, 8, .inl (fun _ => 0))) :: (mpa, .inl (cI, 8, .inl (fun _ => 0))) :: (mta, .inl (cI, 8, .inl (fun _ => 0))) :: (mla, .inl (cI, 40, .inl (fun _ => 0))) :: (msl, .inl (cI, 40, .inl (fun _ => 0))) :: (mco, .inl (cI, 3, .inl (zL3 5 10 50))) :: (mhe, .inl (cI, 8, .inl (fun _ => 0))) :: (mso, .inl (cI, 8, .inl (fun _ => 0))) :: (msi, .inl (cI, 8, .inl (fun _ => 0))) :: (msh, .inl (cI, 8, .inl (fun _ => 0))) :: (mce, .inl (cJ, 1280, .inr (.inl (fun _ => 0)))) :: (mca, .inl (cJ, 160, .inr (.inl (fun _ => 0)))) :: (mwo, .inl (cI, 64, .inl fw_)) :: (mnu, .inl (cI, 10, .inl fn_)) :: (mte, .inl (cI, 3, .inl (fun _ => 0))) :: (mwa, .inl (cI, 130, .inl (fun _ => 0))) :: (mke, .inl (cI, 130, .inl (fun _ => 0))) :: (mma, .inl (cI, 3, .inl (fun _ => 0))) :: (mth, .inl (cI, 3, .inl (fun _ => 0))) :: (mtr, .inl (cI, 20, .inl (fun _ => 0))) :: [])) ⟨hx, hb, hml, hown, hts⟩ (c_show l D cI cJ cZ cP cS x0 xs j0 k0 w0 rd mv xr sh el jp jc z0 0 0 (a_3) (a_6)  H.size) (cwV 2 hts gq_35 rfl rfl rfl (by decide +kernel) ⟨Nat.le_of_ble_eq_true rfl, Nat.le_of_ble_eq_true rfl⟩) hK hN (hZ.kept hS) hP hD hS hA [0, 24, 1, 25, 27, 29, 31, 33, 35, 37, 39, 2] [41, 42, 43, 44, 45, 46, 47, 48, 49, 50, 51, 52, 53, 54, 55, 56, 57, 58, 59, 60, 61, 62] rfl rfl (by decide) (by decide) (by decide) (va_recv hK hP (ci := 7) (q0 := 0) rfl rfl) rfl hl.1 rfl (Nat.le_of_ble_eq_true rfl) dL_law_424 ⟨Nat.le_of_ble_eq_true rfl, Nat.le_of_ble_eq_true rfl⟩ (fun r_7 u_8 H locs hr_7 hP hD hS => ?_)
  replace hP : va_P D vwCl ((m0, .inr (8, (.int 0 :: .int 20 :: .int 0 :: .int 0 :: .int 0 :: .int 60 :: .int 0 :: .int 3 :: .int 1 :: .int (-1) :: .ref mrf :: .ref mki :: .ref mpa :: .ref mta :: .ref mla :: .ref msl :: .ref mco :: .ref mhe :: .ref mso :: .ref msi :: .ref msh :: .ref mce :: .ref mca :: .ref mwo :: .ref mnu :: .ref mte :: .int 0 :: .int 0 :: .int 0 :: .int 0 :: .int 0 :: .ref mwa :: .ref mke :: .ref mma :: .ref mth :: .ref mtr :: .int 0 :: .int 0 :: []))) :: (mrf, .inl (cI, 8, .inl (fun _ => 0))) :: (mki, .inl (cI, 8, .inl (fun _ => 0))) :: (mpa, .inl (cI, 8, .inl (fun _ => 0))) :: (mta, .inl (cI, 8, .inl (fun _ => 0))) :: (mla, .inl (cI, 40, .inl (fun _ => 0))) :: (msl, .inl (cI, 40, .inl (fun _ => 0))) :: (mco, .inl (cI, 3, .inl (zL3 5 10 50))) :: (mhe, .inl (cI, 8, .inl (fun _ => 0))) :: (mso, .inl (cI, 8, .inl (fun _ => 0))) :: (msi, .inl (cI, 8, .inl (fun _ => 0))) :: (msh, .inl (cI, 8, .inl (fun _ => 0))) :: (mce, .inl (cJ, 1280, .inr (.inl (fun _ => 0)))) :: (mca, .inl (cJ, 160, .inr (.inl (fun _ => 0)))) :: (mwo, .inl (cI, 64, .inl fw_)) :: (mnu, .inl (cI, 10, .inl fn_)) :: (mte, .inl (cI, 3, .inl (fun _ => 0))) :: (mwa, .inl (cI, 130, .inl (fun _ => 0))) :: (mke, .inl (cI, 130, .inl (fun _ => 0))) :: (mma, .inl (cI, 3, .inl (fun _ => 0))) :: (mth, .inl (cI, 3, .inl (fun _ => 0))) :: (mtr, .inl (cI, 20, .inl (fun _ => 0))) :: []) H := hP
  replace hD : va_D _ ((m0, .inr (8, (.int 0 :: .int 20 :: .int 0 :: .int 0 :: .int 0 :: .int 60 :: .int 0 :: .int 3 :: .int 1 :: .int (-1) :: .ref mrf :: .ref mki :: .ref mpa :: .ref mta :: .ref mla :: .ref msl :: .ref mco :: .ref mhe :: .ref mso :: .ref msi :: .ref msh :: .ref mce :: .ref mca :: .ref mwo :: .ref mnu :: .ref mte :: .int 0 :: .int 0 :: .int 0 :: .int 0 :: .int 0 :: .ref mwa :: .ref mke :: .ref mma :: .ref mth :: .ref mtr :: .int 0 :: .int 0 :: []))) :: (mrf, .inl (cI, 8, .inl (fun _ => 0))) :: (mki, .inl (cI, 8, .inl (fun _ => 0))) :: (mpa, .inl (cI, 8, .inl (fun _ => 0))) :: (mta, .inl (cI, 8, .inl (fun _ => 0))) :: (mla, .inl (cI, 40, .inl (fun _ => 0))) :: (msl, .inl (cI, 40, .inl (fun _ => 0))) :: (mco, .inl (cI, 3, .inl (zL3 5 10 50))) :: (mhe, .inl (cI, 8, .inl (fun _ => 0))) :: (mso, .inl (cI, 8, .inl (fun _ => 0))) :: (msi, .inl (cI, 8, .inl (fun _ => 0))) :: (msh, .inl (cI, 8, .inl (fun _ => 0))) :: (mce, .inl (cJ, 1280, .inr (.inl (fun _ => 0)))) :: (mca, .inl (cJ, 160, .inr (.inl (fun _ => 0)))) :: (mwo, .inl (cI, 64, .inl fw_)) :: (mnu, .inl (cI, 10, .inl fn_)) :: (mte, .inl (cI, 3, .inl (fun _ => 0))) :: (mwa, .inl (cI, 130, .inl (fun _ => 0))) :: (mke, .inl (cI, 130, .inl (fun _ => 0))) :: (mma, .inl (cI, 3, .inl (fun _ => 0))) :: (mth, .inl (cI, 3, .inl (fun _ => 0))) :: (mtr, .inl (cI, 20, .inl (fun _ => 0))) :: []) := hD
  rcases hr_7 with ⟨rfl, g_9⟩ | ⟨rfl, g_10, g_11⟩ | ⟨rfl, g_12, g_13, g_14⟩ | ⟨rfl, g_15, g_16, g_17, g_18⟩ | ⟨rfl, g_19, g_20, g_21, g_22⟩
  · refine lv_aload_n hx hb dL_law_427 rfl (lv_at hl 1 rfl) ?_
    refine lv_aload_n hx hb dL_law_428 rfl (lv_at hl 3 rfl) ?_
    refine lv_iload_n hx hb dL_law_429 rfl (lv_at hl 0 rfl) ?_
    refine lv_iconst (v := 1) hx hb dL_law_430 (by decide) ?_
    refine lv_iadd hx hb dL_law_431 ?_
    refine lv_topi (fun y_23 ey_23 => ?_)
    obtain rfl : y_23 = 1 := ey_23.trans (by decide)
    refine va_sld hx hb hX hbl hbA hS (zf_in (by decide) (by decide)) dL_law_432 ?_
    refine lv_topi (fun y_24 ey_24 => ?_)
    obtain rfl : a_3 = y_24 := ea_3.trans ey_24.symm
    refine lv_aload_n hx hb dL_law_433 rfl (lv_at hl 3 rfl) ?_
    refine lv_iload_n hx hb dL_law_434 rfl (lv_at hl 0 rfl) ?_
    refine lv_iconst (v := 2) hx hb dL_law_435 (by decide) ?_
    refine lv_iadd hx hb dL_law_436 ?_
    refine lv_topi (fun y_25 ey_25 => ?_)
    obtain rfl : y_25 = 2 := ey_25.trans (by decide)
    refine va_sld hx hb hX hbl hbA hS (zf_in (by decide) (by decide)) dL_law_437 ?_
    refine lv_topi (fun y_26 ey_26 => ?_)
    obtain rfl : a_6 = y_26 := ea_6.trans ey_26.symm
    skip
    refine zw_V (As := [.int a_3, .int a_6]) (rest := [.int (-1)]) (wr := [(mki, .inl (cI, 8, .inl (fun _ => 0))), (mpa, .inl (cI, 8, .inl (fun _ => 0))), (mta, .inl (cI, 8, .inl (fun _ => 0))), (mla, .inl (cI, 40, .inl (fun _ => 0))), (msl, .inl (cI, 40, .inl (fun _ => 0))), (mco, .inl (cI, 3, .inl (zL3 5 10 50))), (mso, .inl (cI, 8, .inl (fun _ => 0))), (msi, .inl (cI, 8, .inl (fun _ => 0))), (mce, .inl (cJ, 1280, .inr (.inl (fun _ => 0)))), (mca, .inl (cJ, 160, .inr (.inl (fun _ => 0)))), (mwo, .inl (cI, 64, .inl fw_)), (mnu, .inl (cI, 10, .inl fn_)), (mte, .inl (cI, 3, .inl (fun _ => 0))), (mwa, .inl (cI, 130, .inl (fun _ => 0))), (mke, .inl (cI, 130, .inl (fun _ => 0))), (mma, .inl (cI, 3, .inl (fun _ => 0))), (mth, .inl (cI, 3, .inl (fun _ => 0))), (mtr, .inl (cI, 20, .inl (fun _ => 0)))]) ⟨hx, hb, hml, hown, hts⟩ (c_M_show l D cI cJ cZ cP cS m0 mrf mki mpa mta mla msl mco mhe mso msi msh mce mca mwo mnu mte mwa mke mma mth mtr (a_3) (a_6)  H.size) (cwV 2 hts gq_39 rfl rfl rfl (by decide +kernel) ⟨Nat.le_of_ble_eq_true rfl, Nat.le_of_ble_eq_true rfl⟩) hK hN (hZ.kept hS) hP hD hS hA [0, 1, 8, 11] [2, 3, 4, 5, 6, 7, 9, 10, 12, 13, 14, 15, 16, 17, 18, 19, 20, 21] rfl rfl (by decide) (by decide) (by decide) (va_recv hK hP (ci := 8) (q0 := 0) rfl rfl) rfl hl.1 rfl (Nat.le_of_ble_eq_true rfl) dL_law_438 ⟨Nat.le_of_ble_eq_true rfl, Nat.le_of_ble_eq_true rfl⟩ (fun r_27 u_28 H locs hr_27 hP hD hS => ?_)
    replace hP : va_P D vwCl [(mki, .inl (cI, 8, .inl (fun _ => 0))), (mpa, .inl (cI, 8, .inl (fun _ => 0))), (mta, .inl (cI, 8, .inl (fun _ => 0))), (mla, .inl (cI, 40, .inl (fun _ => 0))), (msl, .inl (cI, 40, .inl (fun _ => 0))), (mco, .inl (cI, 3, .inl (zL3 5 10 50))), (mso, .inl (cI, 8, .inl (fun _ => 0))), (msi, .inl (cI, 8, .inl (fun _ => 0))), (mce, .inl (cJ, 1280, .inr (.inl (fun _ => 0)))), (mca, .inl (cJ, 160, .inr (.inl (fun _ => 0)))), (mwo, .inl (cI, 64, .inl fw_)), (mnu, .inl (cI, 10, .inl fn_)), (mte, .inl (cI, 3, .inl (fun _ => 0))), (mwa, .inl (cI, 130, .inl (fun _ => 0))), (mke, .inl (cI, 130, .inl (fun _ => 0))), (mma, .inl (cI, 3, .inl (fun _ => 0))), (mth, .inl (cI, 3, .inl (fun _ => 0))), (mtr, .inl (cI, 20, .inl (fun _ => 0)))] H := hP
    replace hD : va_D _ [(mki, .inl (cI, 8, .inl (fun _ => 0))), (mpa, .inl (cI, 8, .inl (fun _ => 0))), (mta, .inl (cI, 8, .inl (fun _ => 0))), (mla, .inl (cI, 40, .inl (fun _ => 0))), (msl, .inl (cI, 40, .inl (fun _ => 0))), (mco, .inl (cI, 3, .inl (zL3 5 10 50))), (mso, .inl (cI, 8, .inl (fun _ => 0))), (msi, .inl (cI, 8, .inl (fun _ => 0))), (mce, .inl (cJ, 1280, .inr (.inl (fun _ => 0)))), (mca, .inl (cJ, 160, .inr (.inl (fun _ => 0)))), (mwo, .inl (cI, 64, .inl fw_)), (mnu, .inl (cI, 10, .inl fn_)), (mte, .inl (cI, 3, .inl (fun _ => 0))), (mwa, .inl (cI, 130, .inl (fun _ => 0))), (mke, .inl (cI, 130, .inl (fun _ => 0))), (mma, .inl (cI, 3, .inl (fun _ => 0))), (mth, .inl (cI, 3, .inl (fun _ => 0))), (mtr, .inl (cI, 20, .inl (fun _ => 0)))] := hD
    rcases hr_27 with ⟨rfl, g_29⟩ | ⟨rfl, g_30, g_31⟩ | ⟨rfl, g_32, g_33, g_34⟩ | ⟨rfl, g_35, g_36, g_37, g_38⟩ | ⟨rfl, g_39, g_40, g_41, g_42⟩
    · refine lv_icmp_eq (tgt := 1371) hx hb dL_law_441 (by decide) (fun c_43 => ?_) (fun c_43 => ?_)
      · refine lv_iinc (v := 6) (lv' := [(3, .int 6), (2, .ref m0), (1, .ref x0), (0, .ref b)]) hx hb dL_law_1371 hl (k := 0) rfl (by decide) (by decide) rfl (fun ls hl => ?_)
        refine lv_goto (tgt := 18) hx hb dL_law_1374 (by decide) ?_
        refine lv_iload_n hx hb dL_law_18 rfl (lv_at hl 0 rfl) ?_
        refine lv_aload_n hx hb dL_law_19 rfl (lv_at hl 3 rfl) ?_
        refine va_slen hx hb hX hbl hbA hS dL_law_20 ?_
        refine lv_topi (fun y_44 ey_44 => ?_)
        obtain rfl : y_44 = 6 := ey_44.trans (by decide)
        refine lv_bipush (v := 6) hx hb dL_law_21 (by decide) ?_
        refine lv_isub hx hb dL_law_23 ?_
        refine lv_topi (fun y_45 ey_45 => ?_)
        obtain rfl : y_45 = 0 := ey_45.trans (by decide)
        refine lv_icmp_gt (tgt := 1377) hx hb dL_law_24 (by decide) (fun c_46 => ?_) (fun c_46 => ?_)
        · refine lv_iconst (v := 1) hx hb dL_law_1377 (by decide) ?_
          refine va_forget (fun q hq => hS.2.2 q hq) ?_
          refine W.widen (k := 600000) (n := 7302250) (Nat.le_of_ble_eq_true rfl) (Nat.le_of_ble_eq_true rfl) ?_
          exact lw_ret hx hb hr hlocks dL_law_1378
        · exact absurd c_46 (by decide)
      · exact absurd c_43 (by decide)
    · exfalso; omega
    · exfalso; omega
    · exfalso; omega
    · exfalso; omega
  · refine lv_aload_n hx hb dL_law_427 rfl (lv_at hl 1 rfl) ?_
    refine lv_aload_n hx hb dL_law_428 rfl (lv_at hl 3 rfl) ?_
    refine lv_iload_n hx hb dL_law_429 rfl (lv_at hl 0 rfl) ?_
    refine lv_iconst (v := 1) hx hb dL_law_430 (by decide) ?_
    refine lv_iadd hx hb dL_law_431 ?_
    refine lv_topi (fun y_47 ey_47 => ?_)
    obtain rfl : y_47 = 1 := ey_47.trans (by decide)
    refine va_sld hx hb hX hbl hbA hS (zf_in (by decide) (by decide)) dL_law_432 ?_
    refine lv_topi (fun y_48 ey_48 => ?_)
    obtain rfl : a_3 = y_48 := ea_3.trans ey_48.symm
    refine lv_aload_n hx hb dL_law_433 rfl (lv_at hl 3 rfl) ?_
    refine lv_iload_n hx hb dL_law_434 rfl (lv_at hl 0 rfl) ?_
    refine lv_iconst (v := 2) hx hb dL_law_435 (by decide) ?_
    refine lv_iadd hx hb dL_law_436 ?_
    refine lv_topi (fun y_49 ey_49 => ?_)
    obtain rfl : y_49 = 2 := ey_49.trans (by decide)
    refine va_sld hx hb hX hbl hbA hS (zf_in (by decide) (by decide)) dL_law_437 ?_
    refine lv_topi (fun y_50 ey_50 => ?_)
    obtain rfl : a_6 = y_50 := ea_6.trans ey_50.symm
    skip
    refine zw_V (As := [.int a_3, .int a_6]) (rest := [.int (-1)]) (wr := [(mki, .inl (cI, 8, .inl (fun _ => 0))), (mpa, .inl (cI, 8, .inl (fun _ => 0))), (mta, .inl (cI, 8, .inl (fun _ => 0))), (mla, .inl (cI, 40, .inl (fun _ => 0))), (msl, .inl (cI, 40, .inl (fun _ => 0))), (mco, .inl (cI, 3, .inl (zL3 5 10 50))), (mso, .inl (cI, 8, .inl (fun _ => 0))), (msi, .inl (cI, 8, .inl (fun _ => 0))), (mce, .inl (cJ, 1280, .inr (.inl (fun _ => 0)))), (mca, .inl (cJ, 160, .inr (.inl (fun _ => 0)))), (mwo, .inl (cI, 64, .inl fw_)), (mnu, .inl (cI, 10, .inl fn_)), (mte, .inl (cI, 3, .inl (fun _ => 0))), (mwa, .inl (cI, 130, .inl (fun _ => 0))), (mke, .inl (cI, 130, .inl (fun _ => 0))), (mma, .inl (cI, 3, .inl (fun _ => 0))), (mth, .inl (cI, 3, .inl (fun _ => 0))), (mtr, .inl (cI, 20, .inl (fun _ => 0)))]) ⟨hx, hb, hml, hown, hts⟩ (c_M_show l D cI cJ cZ cP cS m0 mrf mki mpa mta mla msl mco mhe mso msi msh mce mca mwo mnu mte mwa mke mma mth mtr (a_3) (a_6)  H.size) (cwV 2 hts gq_39 rfl rfl rfl (by decide +kernel) ⟨Nat.le_of_ble_eq_true rfl, Nat.le_of_ble_eq_true rfl⟩) hK hN (hZ.kept hS) hP hD hS hA [0, 1, 8, 11] [2, 3, 4, 5, 6, 7, 9, 10, 12, 13, 14, 15, 16, 17, 18, 19, 20, 21] rfl rfl (by decide) (by decide) (by decide) (va_recv hK hP (ci := 8) (q0 := 0) rfl rfl) rfl hl.1 rfl (Nat.le_of_ble_eq_true rfl) dL_law_438 ⟨Nat.le_of_ble_eq_true rfl, Nat.le_of_ble_eq_true rfl⟩ (fun r_51 u_52 H locs hr_51 hP hD hS => ?_)
    replace hP : va_P D vwCl [(mki, .inl (cI, 8, .inl (fun _ => 0))), (mpa, .inl (cI, 8, .inl (fun _ => 0))), (mta, .inl (cI, 8, .inl (fun _ => 0))), (mla, .inl (cI, 40, .inl (fun _ => 0))), (msl, .inl (cI, 40, .inl (fun _ => 0))), (mco, .inl (cI, 3, .inl (zL3 5 10 50))), (mso, .inl (cI, 8, .inl (fun _ => 0))), (msi, .inl (cI, 8, .inl (fun _ => 0))), (mce, .inl (cJ, 1280, .inr (.inl (fun _ => 0)))), (mca, .inl (cJ, 160, .inr (.inl (fun _ => 0)))), (mwo, .inl (cI, 64, .inl fw_)), (mnu, .inl (cI, 10, .inl fn_)), (mte, .inl (cI, 3, .inl (fun _ => 0))), (mwa, .inl (cI, 130, .inl (fun _ => 0))), (mke, .inl (cI, 130, .inl (fun _ => 0))), (mma, .inl (cI, 3, .inl (fun _ => 0))), (mth, .inl (cI, 3, .inl (fun _ => 0))), (mtr, .inl (cI, 20, .inl (fun _ => 0)))] H := hP
    replace hD : va_D _ [(mki, .inl (cI, 8, .inl (fun _ => 0))), (mpa, .inl (cI, 8, .inl (fun _ => 0))), (mta, .inl (cI, 8, .inl (fun _ => 0))), (mla, .inl (cI, 40, .inl (fun _ => 0))), (msl, .inl (cI, 40, .inl (fun _ => 0))), (mco, .inl (cI, 3, .inl (zL3 5 10 50))), (mso, .inl (cI, 8, .inl (fun _ => 0))), (msi, .inl (cI, 8, .inl (fun _ => 0))), (mce, .inl (cJ, 1280, .inr (.inl (fun _ => 0)))), (mca, .inl (cJ, 160, .inr (.inl (fun _ => 0)))), (mwo, .inl (cI, 64, .inl fw_)), (mnu, .inl (cI, 10, .inl fn_)), (mte, .inl (cI, 3, .inl (fun _ => 0))), (mwa, .inl (cI, 130, .inl (fun _ => 0))), (mke, .inl (cI, 130, .inl (fun _ => 0))), (mma, .inl (cI, 3, .inl (fun _ => 0))), (mth, .inl (cI, 3, .inl (fun _ => 0))), (mtr, .inl (cI, 20, .inl (fun _ => 0)))] := hD
    rcases hr_51 with ⟨rfl, g_53⟩ | ⟨rfl, g_54, g_55⟩ | ⟨rfl, g_56, g_57, g_58⟩ | ⟨rfl, g_59, g_60, g_61, g_62⟩ | ⟨rfl, g_63, g_64, g_65, g_66⟩
    · exfalso; omega
    · refine lv_icmp_eq (tgt := 1371) hx hb dL_law_441 (by decide) (fun c_67 => ?_) (fun c_67 => ?_)
      · refine lv_iinc (v := 6) (lv' := [(3, .int 6), (2, .ref m0), (1, .ref x0), (0, .ref b)]) hx hb dL_law_1371 hl (k := 0) rfl (by decide) (by decide) rfl (fun ls hl => ?_)
        refine lv_goto (tgt := 18) hx hb dL_law_1374 (by decide) ?_
        refine lv_iload_n hx hb dL_law_18 rfl (lv_at hl 0 rfl) ?_
        refine lv_aload_n hx hb dL_law_19 rfl (lv_at hl 3 rfl) ?_
        refine va_slen hx hb hX hbl hbA hS dL_law_20 ?_
        refine lv_topi (fun y_68 ey_68 => ?_)
        obtain rfl : y_68 = 6 := ey_68.trans (by decide)
        refine lv_bipush (v := 6) hx hb dL_law_21 (by decide) ?_
        refine lv_isub hx hb dL_law_23 ?_
        refine lv_topi (fun y_69 ey_69 => ?_)
        obtain rfl : y_69 = 0 := ey_69.trans (by decide)
        refine lv_icmp_gt (tgt := 1377) hx hb dL_law_24 (by decide) (fun c_70 => ?_) (fun c_70 => ?_)
        · refine lv_iconst (v := 1) hx hb dL_law_1377 (by decide) ?_
          refine va_forget (fun q hq => hS.2.2 q hq) ?_
          refine W.widen (k := 600000) (n := 7302250) (Nat.le_of_ble_eq_true rfl) (Nat.le_of_ble_eq_true rfl) ?_
          exact lw_ret hx hb hr hlocks dL_law_1378
        · exact absurd c_70 (by decide)
      · exact absurd c_67 (by decide)
    · exfalso; omega
    · exfalso; omega
    · exfalso; omega
  · refine lv_aload_n hx hb dL_law_427 rfl (lv_at hl 1 rfl) ?_
    refine lv_aload_n hx hb dL_law_428 rfl (lv_at hl 3 rfl) ?_
    refine lv_iload_n hx hb dL_law_429 rfl (lv_at hl 0 rfl) ?_
    refine lv_iconst (v := 1) hx hb dL_law_430 (by decide) ?_
    refine lv_iadd hx hb dL_law_431 ?_
    refine lv_topi (fun y_71 ey_71 => ?_)
    obtain rfl : y_71 = 1 := ey_71.trans (by decide)
    refine va_sld hx hb hX hbl hbA hS (zf_in (by decide) (by decide)) dL_law_432 ?_
    refine lv_topi (fun y_72 ey_72 => ?_)
    obtain rfl : a_3 = y_72 := ea_3.trans ey_72.symm
    refine lv_aload_n hx hb dL_law_433 rfl (lv_at hl 3 rfl) ?_
    refine lv_iload_n hx hb dL_law_434 rfl (lv_at hl 0 rfl) ?_
    refine lv_iconst (v := 2) hx hb dL_law_435 (by decide) ?_
    refine lv_iadd hx hb dL_law_436 ?_
    refine lv_topi (fun y_73 ey_73 => ?_)
    obtain rfl : y_73 = 2 := ey_73.trans (by decide)
    refine va_sld hx hb hX hbl hbA hS (zf_in (by decide) (by decide)) dL_law_437 ?_
    refine lv_topi (fun y_74 ey_74 => ?_)
    obtain rfl : a_6 = y_74 := ea_6.trans ey_74.symm
    skip
    refine zw_V (As := [.int a_3, .int a_6]) (rest := [.int 0]) (wr := [(mki, .inl (cI, 8, .inl (fun _ => 0))), (mpa, .inl (cI, 8, .inl (fun _ => 0))), (mta, .inl (cI, 8, .inl (fun _ => 0))), (mla, .inl (cI, 40, .inl (fun _ => 0))), (msl, .inl (cI, 40, .inl (fun _ => 0))), (mco, .inl (cI, 3, .inl (zL3 5 10 50))), (mso, .inl (cI, 8, .inl (fun _ => 0))), (msi, .inl (cI, 8, .inl (fun _ => 0))), (mce, .inl (cJ, 1280, .inr (.inl (fun _ => 0)))), (mca, .inl (cJ, 160, .inr (.inl (fun _ => 0)))), (mwo, .inl (cI, 64, .inl fw_)), (mnu, .inl (cI, 10, .inl fn_)), (mte, .inl (cI, 3, .inl (fun _ => 0))), (mwa, .inl (cI, 130, .inl (fun _ => 0))), (mke, .inl (cI, 130, .inl (fun _ => 0))), (mma, .inl (cI, 3, .inl (fun _ => 0))), (mth, .inl (cI, 3, .inl (fun _ => 0))), (mtr, .inl (cI, 20, .inl (fun _ => 0)))]) ⟨hx, hb, hml, hown, hts⟩ (c_M_show l D cI cJ cZ cP cS m0 mrf mki mpa mta mla msl mco mhe mso msi msh mce mca mwo mnu mte mwa mke mma mth mtr (a_3) (a_6)  H.size) (cwV 2 hts gq_39 rfl rfl rfl (by decide +kernel) ⟨Nat.le_of_ble_eq_true rfl, Nat.le_of_ble_eq_true rfl⟩) hK hN (hZ.kept hS) hP hD hS hA [0, 1, 8, 11] [2, 3, 4, 5, 6, 7, 9, 10, 12, 13, 14, 15, 16, 17, 18, 19, 20, 21] rfl rfl (by decide) (by decide) (by decide) (va_recv hK hP (ci := 8) (q0 := 0) rfl rfl) rfl hl.1 rfl (Nat.le_of_ble_eq_true rfl) dL_law_438 ⟨Nat.le_of_ble_eq_true rfl, Nat.le_of_ble_eq_true rfl⟩ (fun r_75 u_76 H locs hr_75 hP hD hS => ?_)
    replace hP : va_P D vwCl [(mki, .inl (cI, 8, .inl (fun _ => 0))), (mpa, .inl (cI, 8, .inl (fun _ => 0))), (mta, .inl (cI, 8, .inl (fun _ => 0))), (mla, .inl (cI, 40, .inl (fun _ => 0))), (msl, .inl (cI, 40, .inl (fun _ => 0))), (mco, .inl (cI, 3, .inl (zL3 5 10 50))), (mso, .inl (cI, 8, .inl (fun _ => 0))), (msi, .inl (cI, 8, .inl (fun _ => 0))), (mce, .inl (cJ, 1280, .inr (.inl (fun _ => 0)))), (mca, .inl (cJ, 160, .inr (.inl (fun _ => 0)))), (mwo, .inl (cI, 64, .inl fw_)), (mnu, .inl (cI, 10, .inl fn_)), (mte, .inl (cI, 3, .inl (fun _ => 0))), (mwa, .inl (cI, 130, .inl (fun _ => 0))), (mke, .inl (cI, 130, .inl (fun _ => 0))), (mma, .inl (cI, 3, .inl (fun _ => 0))), (mth, .inl (cI, 3, .inl (fun _ => 0))), (mtr, .inl (cI, 20, .inl (fun _ => 0)))] H := hP
    replace hD : va_D _ [(mki, .inl (cI, 8, .inl (fun _ => 0))), (mpa, .inl (cI, 8, .inl (fun _ => 0))), (mta, .inl (cI, 8, .inl (fun _ => 0))), (mla, .inl (cI, 40, .inl (fun _ => 0))), (msl, .inl (cI, 40, .inl (fun _ => 0))), (mco, .inl (cI, 3, .inl (zL3 5 10 50))), (mso, .inl (cI, 8, .inl (fun _ => 0))), (msi, .inl (cI, 8, .inl (fun _ => 0))), (mce, .inl (cJ, 1280, .inr (.inl (fun _ => 0)))), (mca, .inl (cJ, 160, .inr (.inl (fun _ => 0)))), (mwo, .inl (cI, 64, .inl fw_)), (mnu, .inl (cI, 10, .inl fn_)), (mte, .inl (cI, 3, .inl (fun _ => 0))), (mwa, .inl (cI, 130, .inl (fun _ => 0))), (mke, .inl (cI, 130, .inl (fun _ => 0))), (mma, .inl (cI, 3, .inl (fun _ => 0))), (mth, .inl (cI, 3, .inl (fun _ => 0))), (mtr, .inl (cI, 20, .inl (fun _ => 0)))] := hD
    rcases hr_75 with ⟨rfl, g_77⟩ | ⟨rfl, g_78, g_79⟩ | ⟨rfl, g_80, g_81, g_82⟩ | ⟨rfl, g_83, g_84, g_85, g_86⟩ | ⟨rfl, g_87, g_88, g_89, g_90⟩
    · exfalso; omega
    · exfalso; omega
    · refine lv_icmp_eq (tgt := 1371) hx hb dL_law_441 (by decide) (fun c_91 => ?_) (fun c_91 => ?_)
      · refine lv_iinc (v := 6) (lv' := [(3, .int 6), (2, .ref m0), (1, .ref x0), (0, .ref b)]) hx hb dL_law_1371 hl (k := 0) rfl (by decide) (by decide) rfl (fun ls hl => ?_)
        refine lv_goto (tgt := 18) hx hb dL_law_1374 (by decide) ?_
        refine lv_iload_n hx hb dL_law_18 rfl (lv_at hl 0 rfl) ?_
        refine lv_aload_n hx hb dL_law_19 rfl (lv_at hl 3 rfl) ?_
        refine va_slen hx hb hX hbl hbA hS dL_law_20 ?_
        refine lv_topi (fun y_92 ey_92 => ?_)
        obtain rfl : y_92 = 6 := ey_92.trans (by decide)
        refine lv_bipush (v := 6) hx hb dL_law_21 (by decide) ?_
        refine lv_isub hx hb dL_law_23 ?_
        refine lv_topi (fun y_93 ey_93 => ?_)
        obtain rfl : y_93 = 0 := ey_93.trans (by decide)
        refine lv_icmp_gt (tgt := 1377) hx hb dL_law_24 (by decide) (fun c_94 => ?_) (fun c_94 => ?_)
        · refine lv_iconst (v := 1) hx hb dL_law_1377 (by decide) ?_
          refine va_forget (fun q hq => hS.2.2 q hq) ?_
          refine W.widen (k := 600000) (n := 7302250) (Nat.le_of_ble_eq_true rfl) (Nat.le_of_ble_eq_true rfl) ?_
          exact lw_ret hx hb hr hlocks dL_law_1378
        · exact absurd c_94 (by decide)
      · exact absurd c_91 (by decide)
    · exfalso; omega
    · exfalso; omega
  · refine lv_aload_n hx hb dL_law_427 rfl (lv_at hl 1 rfl) ?_
    refine lv_aload_n hx hb dL_law_428 rfl (lv_at hl 3 rfl) ?_
    refine lv_iload_n hx hb dL_law_429 rfl (lv_at hl 0 rfl) ?_
    refine lv_iconst (v := 1) hx hb dL_law_430 (by decide) ?_
    refine lv_iadd hx hb dL_law_431 ?_
    refine lv_topi (fun y_95 ey_95 => ?_)
    obtain rfl : y_95 = 1 := ey_95.trans (by decide)
    refine va_sld hx hb hX hbl hbA hS (zf_in (by decide) (by decide)) dL_law_432 ?_
    refine lv_topi (fun y_96 ey_96 => ?_)
    obtain rfl : a_3 = y_96 := ea_3.trans ey_96.symm
    refine lv_aload_n hx hb dL_law_433 rfl (lv_at hl 3 rfl) ?_
    refine lv_iload_n hx hb dL_law_434 rfl (lv_at hl 0 rfl) ?_
    refine lv_iconst (v := 2) hx hb dL_law_435 (by decide) ?_
    refine lv_iadd hx hb dL_law_436 ?_
    refine lv_topi (fun y_97 ey_97 => ?_)
    obtain rfl : y_97 = 2 := ey_97.trans (by decide)
    refine va_sld hx hb hX hbl hbA hS (zf_in (by decide) (by decide)) dL_law_437 ?_
    refine lv_topi (fun y_98 ey_98 => ?_)
    obtain rfl : a_6 = y_98 := ea_6.trans ey_98.symm
    skip
    refine zw_V (As := [.int a_3, .int a_6]) (rest := [.int (-1)]) (wr := [(mki, .inl (cI, 8, .inl (fun _ => 0))), (mpa, .inl (cI, 8, .inl (fun _ => 0))), (mta, .inl (cI, 8, .inl (fun _ => 0))), (mla, .inl (cI, 40, .inl (fun _ => 0))), (msl, .inl (cI, 40, .inl (fun _ => 0))), (mco, .inl (cI, 3, .inl (zL3 5 10 50))), (mso, .inl (cI, 8, .inl (fun _ => 0))), (msi, .inl (cI, 8, .inl (fun _ => 0))), (mce, .inl (cJ, 1280, .inr (.inl (fun _ => 0)))), (mca, .inl (cJ, 160, .inr (.inl (fun _ => 0)))), (mwo, .inl (cI, 64, .inl fw_)), (mnu, .inl (cI, 10, .inl fn_)), (mte, .inl (cI, 3, .inl (fun _ => 0))), (mwa, .inl (cI, 130, .inl (fun _ => 0))), (mke, .inl (cI, 130, .inl (fun _ => 0))), (mma, .inl (cI, 3, .inl (fun _ => 0))), (mth, .inl (cI, 3, .inl (fun _ => 0))), (mtr, .inl (cI, 20, .inl (fun _ => 0)))]) ⟨hx, hb, hml, hown, hts⟩ (c_M_show l D cI cJ cZ cP cS m0 mrf mki mpa mta mla msl mco mhe mso msi msh mce mca mwo mnu mte mwa mke mma mth mtr (a_3) (a_6)  H.size) (cwV 2 hts gq_39 rfl rfl rfl (by decide +kernel) ⟨Nat.le_of_ble_eq_true rfl, Nat.le_of_ble_eq_true rfl⟩) hK hN (hZ.kept hS) hP hD hS hA [0, 1, 8, 11] [2, 3, 4, 5, 6, 7, 9, 10, 12, 13, 14, 15, 16, 17, 18, 19, 20, 21] rfl rfl (by decide) (by decide) (by decide) (va_recv hK hP (ci := 8) (q0 := 0) rfl rfl) rfl hl.1 rfl (Nat.le_of_ble_eq_true rfl) dL_law_438 ⟨Nat.le_of_ble_eq_true rfl, Nat.le_of_ble_eq_true rfl⟩ (fun r_99 u_100 H locs hr_99 hP hD hS => ?_)
    replace hP : va_P D vwCl [(mki, .inl (cI, 8, .inl (fun _ => 0))), (mpa, .inl (cI, 8, .inl (fun _ => 0))), (mta, .inl (cI, 8, .inl (fun _ => 0))), (mla, .inl (cI, 40, .inl (fun _ => 0))), (msl, .inl (cI, 40, .inl (fun _ => 0))), (mco, .inl (cI, 3, .inl (zL3 5 10 50))), (mso, .inl (cI, 8, .inl (fun _ => 0))), (msi, .inl (cI, 8, .inl (fun _ => 0))), (mce, .inl (cJ, 1280, .inr (.inl (fun _ => 0)))), (mca, .inl (cJ, 160, .inr (.inl (fun _ => 0)))), (mwo, .inl (cI, 64, .inl fw_)), (mnu, .inl (cI, 10, .inl fn_)), (mte, .inl (cI, 3, .inl (fun _ => 0))), (mwa, .inl (cI, 130, .inl (fun _ => 0))), (mke, .inl (cI, 130, .inl (fun _ => 0))), (mma, .inl (cI, 3, .inl (fun _ => 0))), (mth, .inl (cI, 3, .inl (fun _ => 0))), (mtr, .inl (cI, 20, .inl (fun _ => 0)))] H := hP
    replace hD : va_D _ [(mki, .inl (cI, 8, .inl (fun _ => 0))), (mpa, .inl (cI, 8, .inl (fun _ => 0))), (mta, .inl (cI, 8, .inl (fun _ => 0))), (mla, .inl (cI, 40, .inl (fun _ => 0))), (msl, .inl (cI, 40, .inl (fun _ => 0))), (mco, .inl (cI, 3, .inl (zL3 5 10 50))), (mso, .inl (cI, 8, .inl (fun _ => 0))), (msi, .inl (cI, 8, .inl (fun _ => 0))), (mce, .inl (cJ, 1280, .inr (.inl (fun _ => 0)))), (mca, .inl (cJ, 160, .inr (.inl (fun _ => 0)))), (mwo, .inl (cI, 64, .inl fw_)), (mnu, .inl (cI, 10, .inl fn_)), (mte, .inl (cI, 3, .inl (fun _ => 0))), (mwa, .inl (cI, 130, .inl (fun _ => 0))), (mke, .inl (cI, 130, .inl (fun _ => 0))), (mma, .inl (cI, 3, .inl (fun _ => 0))), (mth, .inl (cI, 3, .inl (fun _ => 0))), (mtr, .inl (cI, 20, .inl (fun _ => 0)))] := hD
    rcases hr_99 with ⟨rfl, g_101⟩ | ⟨rfl, g_102, g_103⟩ | ⟨rfl, g_104, g_105, g_106⟩ | ⟨rfl, g_107, g_108, g_109, g_110⟩ | ⟨rfl, g_111, g_112, g_113, g_114⟩
    · exfalso; omega
    · exfalso; omega
    · refine lv_icmp_eq (tgt := 1371) hx hb dL_law_441 (by decide) (fun c_115 => ?_) (fun c_115 => ?_)
      · exact absurd c_115 (by decide)
      · refine lv_iconst (v := 0) hx hb dL_law_444 (by decide) ?_
        exfalso; omega
    · refine lv_icmp_eq (tgt := 1371) hx hb dL_law_441 (by decide) (fun c_116 => ?_) (fun c_116 => ?_)
      · refine lv_iinc (v := 6) (lv' := [(3, .int 6), (2, .ref m0), (1, .ref x0), (0, .ref b)]) hx hb dL_law_1371 hl (k := 0) rfl (by decide) (by decide) rfl (fun ls hl => ?_)
        refine lv_goto (tgt := 18) hx hb dL_law_1374 (by decide) ?_
        refine lv_iload_n hx hb dL_law_18 rfl (lv_at hl 0 rfl) ?_
        refine lv_aload_n hx hb dL_law_19 rfl (lv_at hl 3 rfl) ?_
        refine va_slen hx hb hX hbl hbA hS dL_law_20 ?_
        refine lv_topi (fun y_117 ey_117 => ?_)
        obtain rfl : y_117 = 6 := ey_117.trans (by decide)
        refine lv_bipush (v := 6) hx hb dL_law_21 (by decide) ?_
        refine lv_isub hx hb dL_law_23 ?_
        refine lv_topi (fun y_118 ey_118 => ?_)
        obtain rfl : y_118 = 0 := ey_118.trans (by decide)
        refine lv_icmp_gt (tgt := 1377) hx hb dL_law_24 (by decide) (fun c_119 => ?_) (fun c_119 => ?_)
        · refine lv_iconst (v := 1) hx hb dL_law_1377 (by decide) ?_
          refine va_forget (fun q hq => hS.2.2 q hq) ?_
          refine W.widen (k := 600000) (n := 7302250) (Nat.le_of_ble_eq_true rfl) (Nat.le_of_ble_eq_true rfl) ?_
          exact lw_ret hx hb hr hlocks dL_law_1378
        · exact absurd c_119 (by decide)
      · exact absurd c_116 (by decide)
    · exfalso; omega
  · refine lv_aload_n hx hb dL_law_427 rfl (lv_at hl 1 rfl) ?_
    refine lv_aload_n hx hb dL_law_428 rfl (lv_at hl 3 rfl) ?_
    refine lv_iload_n hx hb dL_law_429 rfl (lv_at hl 0 rfl) ?_
    refine lv_iconst (v := 1) hx hb dL_law_430 (by decide) ?_
    refine lv_iadd hx hb dL_law_431 ?_
    refine lv_topi (fun y_120 ey_120 => ?_)
    obtain rfl : y_120 = 1 := ey_120.trans (by decide)
    refine va_sld hx hb hX hbl hbA hS (zf_in (by decide) (by decide)) dL_law_432 ?_
    refine lv_topi (fun y_121 ey_121 => ?_)
    obtain rfl : a_3 = y_121 := ea_3.trans ey_121.symm
    refine lv_aload_n hx hb dL_law_433 rfl (lv_at hl 3 rfl) ?_
    refine lv_iload_n hx hb dL_law_434 rfl (lv_at hl 0 rfl) ?_
    refine lv_iconst (v := 2) hx hb dL_law_435 (by decide) ?_
    refine lv_iadd hx hb dL_law_436 ?_
    refine lv_topi (fun y_122 ey_122 => ?_)
    obtain rfl : y_122 = 2 := ey_122.trans (by decide)
    refine va_sld hx hb hX hbl hbA hS (zf_in (by decide) (by decide)) dL_law_437 ?_
    refine lv_topi (fun y_123 ey_123 => ?_)
    obtain rfl : a_6 = y_123 := ea_6.trans ey_123.symm
    skip
    refine zw_V (As := [.int a_3, .int a_6]) (rest := [.int (-1)]) (wr := [(mki, .inl (cI, 8, .inl (fun _ => 0))), (mpa, .inl (cI, 8, .inl (fun _ => 0))), (mta, .inl (cI, 8, .inl (fun _ => 0))), (mla, .inl (cI, 40, .inl (fun _ => 0))), (msl, .inl (cI, 40, .inl (fun _ => 0))), (mco, .inl (cI, 3, .inl (zL3 5 10 50))), (mso, .inl (cI, 8, .inl (fun _ => 0))), (msi, .inl (cI, 8, .inl (fun _ => 0))), (mce, .inl (cJ, 1280, .inr (.inl (fun _ => 0)))), (mca, .inl (cJ, 160, .inr (.inl (fun _ => 0)))), (mwo, .inl (cI, 64, .inl fw_)), (mnu, .inl (cI, 10, .inl fn_)), (mte, .inl (cI, 3, .inl (fun _ => 0))), (mwa, .inl (cI, 130, .inl (fun _ => 0))), (mke, .inl (cI, 130, .inl (fun _ => 0))), (mma, .inl (cI, 3, .inl (fun _ => 0))), (mth, .inl (cI, 3, .inl (fun _ => 0))), (mtr, .inl (cI, 20, .inl (fun _ => 0)))]) ⟨hx, hb, hml, hown, hts⟩ (c_M_show l D cI cJ cZ cP cS m0 mrf mki mpa mta mla msl mco mhe mso msi msh mce mca mwo mnu mte mwa mke mma mth mtr (a_3) (a_6)  H.size) (cwV 2 hts gq_39 rfl rfl rfl (by decide +kernel) ⟨Nat.le_of_ble_eq_true rfl, Nat.le_of_ble_eq_true rfl⟩) hK hN (hZ.kept hS) hP hD hS hA [0, 1, 8, 11] [2, 3, 4, 5, 6, 7, 9, 10, 12, 13, 14, 15, 16, 17, 18, 19, 20, 21] rfl rfl (by decide) (by decide) (by decide) (va_recv hK hP (ci := 8) (q0 := 0) rfl rfl) rfl hl.1 rfl (Nat.le_of_ble_eq_true rfl) dL_law_438 ⟨Nat.le_of_ble_eq_true rfl, Nat.le_of_ble_eq_true rfl⟩ (fun r_124 u_125 H locs hr_124 hP hD hS => ?_)
    replace hP : va_P D vwCl [(mki, .inl (cI, 8, .inl (fun _ => 0))), (mpa, .inl (cI, 8, .inl (fun _ => 0))), (mta, .inl (cI, 8, .inl (fun _ => 0))), (mla, .inl (cI, 40, .inl (fun _ => 0))), (msl, .inl (cI, 40, .inl (fun _ => 0))), (mco, .inl (cI, 3, .inl (zL3 5 10 50))), (mso, .inl (cI, 8, .inl (fun _ => 0))), (msi, .inl (cI, 8, .inl (fun _ => 0))), (mce, .inl (cJ, 1280, .inr (.inl (fun _ => 0)))), (mca, .inl (cJ, 160, .inr (.inl (fun _ => 0)))), (mwo, .inl (cI, 64, .inl fw_)), (mnu, .inl (cI, 10, .inl fn_)), (mte, .inl (cI, 3, .inl (fun _ => 0))), (mwa, .inl (cI, 130, .inl (fun _ => 0))), (mke, .inl (cI, 130, .inl (fun _ => 0))), (mma, .inl (cI, 3, .inl (fun _ => 0))), (mth, .inl (cI, 3, .inl (fun _ => 0))), (mtr, .inl (cI, 20, .inl (fun _ => 0)))] H := hP
    replace hD : va_D _ [(mki, .inl (cI, 8, .inl (fun _ => 0))), (mpa, .inl (cI, 8, .inl (fun _ => 0))), (mta, .inl (cI, 8, .inl (fun _ => 0))), (mla, .inl (cI, 40, .inl (fun _ => 0))), (msl, .inl (cI, 40, .inl (fun _ => 0))), (mco, .inl (cI, 3, .inl (zL3 5 10 50))), (mso, .inl (cI, 8, .inl (fun _ => 0))), (msi, .inl (cI, 8, .inl (fun _ => 0))), (mce, .inl (cJ, 1280, .inr (.inl (fun _ => 0)))), (mca, .inl (cJ, 160, .inr (.inl (fun _ => 0)))), (mwo, .inl (cI, 64, .inl fw_)), (mnu, .inl (cI, 10, .inl fn_)), (mte, .inl (cI, 3, .inl (fun _ => 0))), (mwa, .inl (cI, 130, .inl (fun _ => 0))), (mke, .inl (cI, 130, .inl (fun _ => 0))), (mma, .inl (cI, 3, .inl (fun _ => 0))), (mth, .inl (cI, 3, .inl (fun _ => 0))), (mtr, .inl (cI, 20, .inl (fun _ => 0)))] := hD
    rcases hr_124 with ⟨rfl, g_126⟩ | ⟨rfl, g_127, g_128⟩ | ⟨rfl, g_129, g_130, g_131⟩ | ⟨rfl, g_132, g_133, g_134, g_135⟩ | ⟨rfl, g_136, g_137, g_138, g_139⟩
    · exfalso; omega
    · exfalso; omega
    · exfalso; omega
    · exfalso; omega
    · refine lv_icmp_eq (tgt := 1371) hx hb dL_law_441 (by decide) (fun c_140 => ?_) (fun c_140 => ?_)
      · refine lv_iinc (v := 6) (lv' := [(3, .int 6), (2, .ref m0), (1, .ref x0), (0, .ref b)]) hx hb dL_law_1371 hl (k := 0) rfl (by decide) (by decide) rfl (fun ls hl => ?_)
        refine lv_goto (tgt := 18) hx hb dL_law_1374 (by decide) ?_
        refine lv_iload_n hx hb dL_law_18 rfl (lv_at hl 0 rfl) ?_
        refine lv_aload_n hx hb dL_law_19 rfl (lv_at hl 3 rfl) ?_
        refine va_slen hx hb hX hbl hbA hS dL_law_20 ?_
        refine lv_topi (fun y_141 ey_141 => ?_)
        obtain rfl : y_141 = 6 := ey_141.trans (by decide)
        refine lv_bipush (v := 6) hx hb dL_law_21 (by decide) ?_
        refine lv_isub hx hb dL_law_23 ?_
        refine lv_topi (fun y_142 ey_142 => ?_)
        obtain rfl : y_142 = 0 := ey_142.trans (by decide)
        refine lv_icmp_gt (tgt := 1377) hx hb dL_law_24 (by decide) (fun c_143 => ?_) (fun c_143 => ?_)
        · refine lv_iconst (v := 1) hx hb dL_law_1377 (by decide) ?_
          refine va_forget (fun q hq => hS.2.2 q hq) ?_
          refine W.widen (k := 600000) (n := 7302250) (Nat.le_of_ble_eq_true rfl) (Nat.le_of_ble_eq_true rfl) ?_
          exact lw_ret hx hb hr hlocks dL_law_1378
        · exact absurd c_143 (by decide)
      · exact absurd c_140 (by decide)
set_option maxHeartbeats 8000000 in
set_option maxRecDepth 100000 in
theorem law_case_5 {p : Program} {l : Launch} {e : Env} {s : State} {m : MethodId} {below : List Frame} {meth : Method} {c : Code} {D : va_G} {cI cJ cZ cP cS : ClassId} {b : Nat} {xs_ : Nat → Int32} (x0 xs j0 k0 w0 rd mv xr z0 jp jc zl zs kz kp kc kzl kzs wk wl wc wp ri rl mb m0 mrf mki mpa mta mla msl mco mhe mso msi msh mce mca mwo mnu mte mwa mke mma mth mtr : Nat) (sh el : Nat → Nat) (fw_ fn_ : Nat → Int32) (C0 : lw_At p s m meth c b 6 xs_) (hK : va_K D vwCl (zKT cI cJ cZ cP cS) s) (hN : zN s) (hZ : zSt (fun q : Nat => s.heap.size ≤ q) s s.heap) (H : Heap) (locs : List Loc) (hP : va_P D vwCl (zLW cI cJ cZ cP cS x0 xs j0 k0 w0 rd mv xr z0 jp jc zl zs kz kp kc kzl kzs wk wl wc wp ri rl mb m0 mrf mki mpa mta mla msl mco mhe mso msi msh mce mca mwo mnu mte mwa mke mma mth mtr sh el fw_ fn_) H) (hD : va_D (fun q : Nat => s.heap.size ≤ q) (zLW cI cJ cZ cP cS x0 xs j0 k0 w0 rd mv xr z0 jp jc zl zs kz kp kc kzl kzs wk wl wc wp ri rl mb m0 mrf mki mpa mta mla msl mco mhe mso msi msh mce mca mwo mnu mte mwa mke mma mth mtr sh el fw_ fn_)) (hS : va_S (fun q : Nat => s.heap.size ≤ q) s.heap H locs) (ls : Array Slot) (hl : lv_has ls 4 [(3, .int 0), (2, .ref m0), (1, .ref x0), (0, .ref b)]) : W p l e room_1 s m #[Value.ref b] below meth c H locs 100 10000 (lw_Z below #[Value.ref b] s) (F0 m 446 ls []) := by
  obtain ⟨hx, hb, hr, hml, hown0, hts, hX, hbl, hlocks, hgv⟩ := id C0
  have hown : s.vm.findClass RL = some m.cls := hown0
  have hA : ∀ q : Nat, s.heap.size ≤ q → (fun q : Nat => s.heap.size ≤ q) q := fun _ h => h
  have hbA : ¬ (fun q : Nat => s.heap.size ≤ q) b := Nat.not_le.mpr hbl
  replace hP : va_P D vwCl ((x0, .inr (7, [.ref xs, .ref j0, .ref k0, .ref w0, .ref rd, .ref mv, .ref xr, .int 0, .int (-1)])) :: (xs, .inl (cS, 8, .inr (.inr (.inr (.inr (zS sh)))))) :: (j0, .inr (0, [.ref z0, .ref jp, .ref jc, .int 0, .int 0, .int 0, .int 60, .int 0, .int 1])) :: (z0, .inr (6, [.ref zl, .ref zs, .int 20, .int 0, .int 3])) :: (zl, .inl (cZ, 40, .inl (fun _ => 0))) :: (zs, .inl (cI, 40, .inl (fun _ => 0))) :: (jp, .inl (cP, 8, .inr (.inr (.inr (.inr (fun _ => none)))))) :: (jc, .inl (cI, 3, .inl (zL3 5 10 50))) :: (k0, .inr (0, [.ref kz, .ref kp, .ref kc, .int 0, .int 0, .int 0, .int 60, .int 0, .int 1])) :: (kz, .inr (6, [.ref kzl, .ref kzs, .int 20, .int 0, .int 3])) :: (kzl, .inl (cZ, 40, .inl (fun _ => 0))) :: (kzs, .inl (cI, 40, .inl (fun _ => 0))) :: (kp, .inl (cP, 8, .inr (.inr (.inr (.inr (fun _ => none)))))) :: (kc, .inl (cI, 3, .inl (zL3 5 10 50))) :: (w0, .inr (5, [.ref wk, .ref wl, .ref wc, .ref wp, .int 0, .int 0, .int 0])) :: (wk, .inl (cI, 125, .inl (fun _ => 0))) :: (wl, .inl (cI, 125, .inl (fun _ => 0))) :: (wc, .inl (cI, 3, .inl (fun _ => 0))) :: (wp, .inl (cP, 8, .inr (.inr (.inr (.inr (fun _ => none)))))) :: (rd, .inr (3, [.ref ri, .ref rl, .int 0, .int 0, .int 0, .int (-1), .int 0, .int 0])) :: (ri, .inl (cI, 132, .inl (fun _ => 0))) :: (rl, .inl (cI, 160, .inl (fun _ => 0))) :: (mv, .inr (1, [.ref mb, .int 0, .int 0, .int 0, .int 0])) :: (mb, .inl (cI, 20, .inl (fun _ => 0))) :: (xr, .inl (cI, 8, .inl (fun _ => 0))) :: ((sh 0), .inr (4, [.ref (el 0), .int (-1), .int 0])) :: ((el 0), .inl (cJ, 160, .inr (.inl (fun _ => 0)))) :: ((sh 1), .inr (4, [.ref (el 1), .int (-1), .int 0])) :: ((el 1), .inl (cJ, 160, .inr (.inl (fun _ => 0)))) :: ((sh 2), .inr (4, [.ref (el 2), .int (-1), .int 0])) :: ((el 2), .inl (cJ, 160, .inr (.inl (fun _ => 0)))) :: ((sh 3), .inr (4, [.ref (el 3), .int (-1), .int 0])) :: ((el 3), .inl (cJ, 160, .inr (.inl (fun _ => 0)))) :: ((sh 4), .inr (4, [.ref (el 4), .int (-1), .int 0])) :: ((el 4), .inl (cJ, 160, .inr (.inl (fun _ => 0)))) :: ((sh 5), .inr (4, [.ref (el 5), .int (-1), .int 0])) :: ((el 5), .inl (cJ, 160, .inr (.inl (fun _ => 0)))) :: ((sh 6), .inr (4, [.ref (el 6), .int (-1), .int 0])) :: ((el 6), .inl (cJ, 160, .inr (.inl (fun _ => 0)))) :: ((sh 7), .inr (4, [.ref (el 7), .int (-1), .int 0])) :: ((el 7), .inl (cJ, 160, .inr (.inl (fun _ => 0)))) :: (m0, .inr (8, (.int 0 :: .int 20 :: .int 0 :: .int 0 :: .int 0 :: .int 60 :: .int 0 :: .int 3 :: .int 1 :: .int (-1) :: .ref mrf :: .ref mki :: .ref mpa :: .ref mta :: .ref mla :: .ref msl :: .ref mco :: .ref mhe :: .ref mso :: .ref msi :: .ref msh :: .ref mce :: .ref mca :: .ref mwo :: .ref mnu :: .ref mte :: .int 0 :: .int 0 :: .int 0 :: .int 0 :: .int 0 :: .ref mwa :: .ref mke :: .ref mma :: .ref mth :: .ref mtr :: .int 0 :: .int 0 :: []))) :: (mrf, .inl (cI, 8, .inl (fun _ => 0))) :: (mki, .inl (cI, 8, .inl (fun _ => 0))) :: (mpa, .inl (cI, 8, .inl (fun _ => 0))) :: (mta, .inl (cI, 8, .inl (fun _ => 0))) :: (mla, .inl (cI, 40, .inl (fun _ => 0))) :: (msl, .inl (cI, 40, .inl (fun _ => 0))) :: (mco, .inl (cI, 3, .inl (zL3 5 10 50))) :: (mhe, .inl (cI, 8, .inl (fun _ => 0))) :: (mso, .inl (cI, 8, .inl (fun _ => 0))) :: (msi, .inl (cI, 8, .inl (fun _ => 0))) :: (msh, .inl (cI, 8, .inl (fun _ => 0))) :: (mce, .inl (cJ, 1280, .inr (.inl (fun _ => 0)))) :: (mca, .inl (cJ, 160, .inr (.inl (fun _ => 0)))) :: (mwo, .inl (cI, 64, .inl fw_)) :: (mnu, .inl (cI, 10, .inl fn_)) :: (mte, .inl (cI, 3, .inl (fun _ => 0))) :: (mwa, .inl (cI, 130, .inl (fun _ => 0))) :: (mke, .inl (cI, 130, .inl (fun _ => 0))) :: (mma, .inl (cI, 3, .inl (fun _ => 0))) :: (mth, .inl (cI, 3, .inl (fun _ => 0))) :: (mtr, .inl (cI, 20, .inl (fun _ => 0))) :: []) H := hP
  replace hD : va_D _ ((x0, .inr (7, [.ref xs, .ref j0, .ref k0, .ref w0, .ref rd, .ref mv, .ref xr, .int 0, .int (-1)])) :: (xs, .inl (cS, 8, .inr (.inr (.inr (.inr (zS sh)))))) :: (j0, .inr (0, [.ref z0, .ref jp, .ref jc, .int 0, .int 0, .int 0, .int 60, .int 0, .int 1])) :: (z0, .inr (6, [.ref zl, .ref zs, .int 20, .int 0, .int 3])) :: (zl, .inl (cZ, 40, .inl (fun _ => 0))) :: (zs, .inl (cI, 40, .inl (fun _ => 0))) :: (jp, .inl (cP, 8, .inr (.inr (.inr (.inr (fun _ => none)))))) :: (jc, .inl (cI, 3, .inl (zL3 5 10 50))) :: (k0, .inr (0, [.ref kz, .ref kp, .ref kc, .int 0, .int 0, .int 0, .int 60, .int 0, .int 1])) :: (kz, .inr (6, [.ref kzl, .ref kzs, .int 20, .int 0, .int 3])) :: (kzl, .inl (cZ, 40, .inl (fun _ => 0))) :: (kzs, .inl (cI, 40, .inl (fun _ => 0))) :: (kp, .inl (cP, 8, .inr (.inr (.inr (.inr (fun _ => none)))))) :: (kc, .inl (cI, 3, .inl (zL3 5 10 50))) :: (w0, .inr (5, [.ref wk, .ref wl, .ref wc, .ref wp, .int 0, .int 0, .int 0])) :: (wk, .inl (cI, 125, .inl (fun _ => 0))) :: (wl, .inl (cI, 125, .inl (fun _ => 0))) :: (wc, .inl (cI, 3, .inl (fun _ => 0))) :: (wp, .inl (cP, 8, .inr (.inr (.inr (.inr (fun _ => none)))))) :: (rd, .inr (3, [.ref ri, .ref rl, .int 0, .int 0, .int 0, .int (-1), .int 0, .int 0])) :: (ri, .inl (cI, 132, .inl (fun _ => 0))) :: (rl, .inl (cI, 160, .inl (fun _ => 0))) :: (mv, .inr (1, [.ref mb, .int 0, .int 0, .int 0, .int 0])) :: (mb, .inl (cI, 20, .inl (fun _ => 0))) :: (xr, .inl (cI, 8, .inl (fun _ => 0))) :: ((sh 0), .inr (4, [.ref (el 0), .int (-1), .int 0])) :: ((el 0), .inl (cJ, 160, .inr (.inl (fun _ => 0)))) :: ((sh 1), .inr (4, [.ref (el 1), .int (-1), .int 0])) :: ((el 1), .inl (cJ, 160, .inr (.inl (fun _ => 0)))) :: ((sh 2), .inr (4, [.ref (el 2), .int (-1), .int 0])) :: ((el 2), .inl (cJ, 160, .inr (.inl (fun _ => 0)))) :: ((sh 3), .inr (4, [.ref (el 3), .int (-1), .int 0])) :: ((el 3), .inl (cJ, 160, .inr (.inl (fun _ => 0)))) :: ((sh 4), .inr (4, [.ref (el 4), .int (-1), .int 0])) :: ((el 4), .inl (cJ, 160, .inr (.inl (fun _ => 0)))) :: ((sh 5), .inr (4, [.ref (el 5), .int (-1), .int 0])) :: ((el 5), .inl (cJ, 160, .inr (.inl (fun _ => 0)))) :: ((sh 6), .inr (4, [.ref (el 6), .int (-1), .int 0])) :: ((el 6), .inl (cJ, 160, .inr (.inl (fun _ => 0)))) :: ((sh 7), .inr (4, [.ref (el 7), .int (-1), .int 0])) :: ((el 7), .inl (cJ, 160, .inr (.inl (fun _ => 0)))) :: (m0, .inr (8, (.int 0 :: .int 20 :: .int 0 :: .int 0 :: .int 0 :: .int 60 :: .int 0 :: .int 3 :: .int 1 :: .int (-1) :: .ref mrf :: .ref mki :: .ref mpa :: .ref mta :: .ref mla :: .ref msl :: .ref mco :: .ref mhe :: .ref mso :: .ref msi :: .ref msh :: .ref mce :: .ref mca :: .ref mwo :: .ref mnu :: .ref mte :: .int 0 :: .int 0 :: .int 0 :: .int 0 :: .int 0 :: .ref mwa :: .ref mke :: .ref mma :: .ref mth :: .ref mtr :: .int 0 :: .int 0 :: []))) :: (mrf, .inl (cI, 8, .inl (fun _ => 0))) :: (mki, .inl (cI, 8, .inl (fun _ => 0))) :: (mpa, .inl (cI, 8, .inl (fun _ => 0))) :: (mta, .inl (cI, 8, .inl (fun _ => 0))) :: (mla, .inl (cI, 40, .inl (fun _ => 0))) :: (msl, .inl (cI, 40, .inl (fun _ => 0))) :: (mco, .inl (cI, 3, .inl (zL3 5 10 50))) :: (mhe, .inl (cI, 8, .inl (fun _ => 0))) :: (mso, .inl (cI, 8, .inl (fun _ => 0))) :: (msi, .inl (cI, 8, .inl (fun _ => 0))) :: (msh, .inl (cI, 8, .inl (fun _ => 0))) :: (mce, .inl (cJ, 1280, .inr (.inl (fun _ => 0)))) :: (mca, .inl (cJ, 160, .inr (.inl (fun _ => 0)))) :: (mwo, .inl (cI, 64, .inl fw_)) :: (mnu, .inl (cI, 10, .inl fn_)) :: (mte, .inl (cI, 3, .inl (fun _ => 0))) :: (mwa, .inl (cI, 130, .inl (fun _ => 0))) :: (mke, .inl (cI, 130, .inl (fun _ => 0))) :: (mma, .inl (cI, 3, .inl (fun _ => 0))) :: (mth, .inl (cI, 3, .inl (fun _ => 0))) :: (mtr, .inl (cI, 20, .inl (fun _ => 0))) :: []) := hD
  refine lv_aload_n hx hb dL_law_446 rfl (lv_at hl 2 rfl) ?_
  refine lv_aload_n hx hb dL_law_447 rfl (lv_at hl 3 rfl) ?_
  refine lv_iload_n hx hb dL_law_448 rfl (lv_at hl 0 rfl) ?_
  refine lv_iconst (v := 1) hx hb dL_law_449 (by decide) ?_
  refine lv_iadd hx hb dL_law_450 ?_
  refine lv_topi (fun y_1 ey_1 => ?_)
  obtain rfl : y_1 = 1 := ey_1.trans (by decide)
  refine va_sld hx hb hX hbl hbA hS (zf_in (by decide) (by decide)) dL_law_451 ?_
  refine lv_topi (fun a_3 ea_3 => ?_)
  skip
  refine zw_V (As := [.int a_3]) (rest := []) (wr := ((m0, .inr (8, (.int 0 :: .int 20 :: .int 0 :: .int 0 :: .int 0 :: .int 60 :: .int 0 :: .int 3 :: .int 1 :: .int (-1) :: .ref mrf :: .ref mki :: .ref mpa :: .ref mta :: .ref mla :: .ref msl :: .ref mco :: .ref mhe :: .ref mso :: .ref msi :: .ref msh :: .ref mce :: .ref mca :: .ref mwo :: .ref mnu :: .ref mte :: .int 0 :: .int 0 :: .int 0 :: .int 0 :: .int 0 :: .ref mwa :: .ref mke :: .ref mma :: .ref mth :: .ref mtr :: .int 0 :: .int 0 :: []))) :: (mrf, .inl (cI, 8, .inl (fun _ => 0))) :: (mki, .inl (cI, 8, .inl (fun _ => 0))) :: (mpa, .inl (cI, 8, .inl (fun _ => 0))) :: (mta, .inl (cI, 8, .inl (fun _ => 0))) :: (mla, .inl (cI, 40, .inl (fun _ => 0))) :: (msl, .inl (cI, 40, .inl (fun _ => 0))) :: (mco, .inl (cI, 3, .inl (zL3 5 10 50))) :: (mhe, .inl (cI, 8, .inl (fun _ => 0))) :: (mso, .inl (cI, 8, .inl (fun _ => 0))) :: (msi, .inl (cI, 8, .inl (fun _ => 0))) :: (msh, .inl (cI, 8, .inl (fun _ => 0))) :: (mce, .inl (cJ, 1280, .inr (.inl (fun _ => 0)))) :: (mca, .inl (cJ, 160, .inr (.inl (fun _ => 0)))) :: (mwo, .inl (cI, 64, .inl fw_)) :: (mnu, .inl (cI, 10, .inl fn_)) :: (mte, .inl (cI, 3, .inl (fun _ => 0))) :: (mwa, .inl (cI, 130, .inl (fun _ => 0))) :: (mke, .inl (cI, 130, .inl (fun _ => 0))) :: (mma, .inl (cI, 3, .inl (fun _ => 0))) :: (mth, .inl (cI, 3, .inl (fun _ => 0))) :: (mtr, .inl (cI, 20, .inl (fun _ => 0))) :: [])) ⟨hx, hb, hml, hown, hts⟩ (c_holds l D cI cJ cZ cP cS x0 xs j0 k0 w0 rd mv xr sh el (a_3)  H.size) (cwV 1 hts gq_40 rfl rfl rfl (by decide +kernel) ⟨Nat.le_of_ble_eq_true rfl, Nat.le_of_ble_eq_true rfl⟩) hK hN (hZ.kept hS) hP hD hS hA [0, 24, 1, 25, 27, 29, 31, 33, 35, 37, 39] [41, 42, 43, 44, 45, 46, 47, 48, 49, 50, 51, 52, 53, 54, 55, 56, 57, 58, 59, 60, 61, 62] rfl rfl (by decide) (by decide) (by decide) (va_recv hK hP (ci := 7) (q0 := 0) rfl rfl) rfl hl.1 rfl (Nat.le_of_ble_eq_true rfl) dL_law_452 ⟨Nat.le_of_ble_eq_true rfl, Nat.le_of_ble_eq_true rfl⟩ (fun r_4 u_5 H locs hr_4 hP hD hS => ?_)
  replace hP : va_P D vwCl ((m0, .inr (8, (.int 0 :: .int 20 :: .int 0 :: .int 0 :: .int 0 :: .int 60 :: .int 0 :: .int 3 :: .int 1 :: .int (-1) :: .ref mrf :: .ref mki :: .ref mpa :: .ref mta :: .ref mla :: .ref msl :: .ref mco :: .ref mhe :: .ref mso :: .ref msi :: .ref msh :: .ref mce :: .ref mca :: .ref mwo :: .ref mnu :: .ref mte :: .int 0 :: .int 0 :: .int 0 :: .int 0 :: .int 0 :: .ref mwa :: .ref mke :: .ref mma :: .ref mth :: .ref mtr :: .int 0 :: .int 0 :: []))) :: (mrf, .inl (cI, 8, .inl (fun _ => 0))) :: (mki, .inl (cI, 8, .inl (fun _ => 0))) :: (mpa, .inl (cI, 8, .inl (fun _ => 0))) :: (mta, .inl (cI, 8, .inl (fun _ => 0))) :: (mla, .inl (cI, 40, .inl (fun _ => 0))) :: (msl, .inl (cI, 40, .inl (fun _ => 0))) :: (mco, .inl (cI, 3, .inl (zL3 5 10 50))) :: (mhe, .inl (cI, 8, .inl (fun _ => 0))) :: (mso, .inl (cI, 8, .inl (fun _ => 0))) :: (msi, .inl (cI, 8, .inl (fun _ => 0))) :: (msh, .inl (cI, 8, .inl (fun _ => 0))) :: (mce, .inl (cJ, 1280, .inr (.inl (fun _ => 0)))) :: (mca, .inl (cJ, 160, .inr (.inl (fun _ => 0)))) :: (mwo, .inl (cI, 64, .inl fw_)) :: (mnu, .inl (cI, 10, .inl fn_)) :: (mte, .inl (cI, 3, .inl (fun _ => 0))) :: (mwa, .inl (cI, 130, .inl (fun _ => 0))) :: (mke, .inl (cI, 130, .inl (fun _ => 0))) :: (mma, .inl (cI, 3, .inl (fun _ => 0))) :: (mth, .inl (cI, 3, .inl (fun _ => 0))) :: (mtr, .inl (cI, 20, .inl (fun _ => 0))) :: []) H := hP
  replace hD : va_D _ ((m0, .inr (8, (.int 0 :: .int 20 :: .int 0 :: .int 0 :: .int 0 :: .int 60 :: .int 0 :: .int 3 :: .int 1 :: .int (-1) :: .ref mrf :: .ref mki :: .ref mpa :: .ref mta :: .ref mla :: .ref msl :: .ref mco :: .ref mhe :: .ref mso :: .ref msi :: .ref msh :: .ref mce :: .ref mca :: .ref mwo :: .ref mnu :: .ref mte :: .int 0 :: .int 0 :: .int 0 :: .int 0 :: .int 0 :: .ref mwa :: .ref mke :: .ref mma :: .ref mth :: .ref mtr :: .int 0 :: .int 0 :: []))) :: (mrf, .inl (cI, 8, .inl (fun _ => 0))) :: (mki, .inl (cI, 8, .inl (fun _ => 0))) :: (mpa, .inl (cI, 8, .inl (fun _ => 0))) :: (mta, .inl (cI, 8, .inl (fun _ => 0))) :: (mla, .inl (cI, 40, .inl (fun _ => 0))) :: (msl, .inl (cI, 40, .inl (fun _ => 0))) :: (mco, .inl (cI, 3, .inl (zL3 5 10 50))) :: (mhe, .inl (cI, 8, .inl (fun _ => 0))) :: (mso, .inl (cI, 8, .inl (fun _ => 0))) :: (msi, .inl (cI, 8, .inl (fun _ => 0))) :: (msh, .inl (cI, 8, .inl (fun _ => 0))) :: (mce, .inl (cJ, 1280, .inr (.inl (fun _ => 0)))) :: (mca, .inl (cJ, 160, .inr (.inl (fun _ => 0)))) :: (mwo, .inl (cI, 64, .inl fw_)) :: (mnu, .inl (cI, 10, .inl fn_)) :: (mte, .inl (cI, 3, .inl (fun _ => 0))) :: (mwa, .inl (cI, 130, .inl (fun _ => 0))) :: (mke, .inl (cI, 130, .inl (fun _ => 0))) :: (mma, .inl (cI, 3, .inl (fun _ => 0))) :: (mth, .inl (cI, 3, .inl (fun _ => 0))) :: (mtr, .inl (cI, 20, .inl (fun _ => 0))) :: []) := hD
  rcases hr_4 with ⟨rfl, g_6⟩ | ⟨rfl, g_7, g_8⟩ | ⟨rfl, g_9, g_10⟩
  · refine lv_aload_n hx hb dL_law_455 rfl (lv_at hl 1 rfl) ?_
    refine lv_aload_n hx hb dL_law_456 rfl (lv_at hl 3 rfl) ?_
    refine lv_iload_n hx hb dL_law_457 rfl (lv_at hl 0 rfl) ?_
    refine lv_iconst (v := 1) hx hb dL_law_458 (by decide) ?_
    refine lv_iadd hx hb dL_law_459 ?_
    refine lv_topi (fun y_11 ey_11 => ?_)
    obtain rfl : y_11 = 1 := ey_11.trans (by decide)
    refine va_sld hx hb hX hbl hbA hS (zf_in (by decide) (by decide)) dL_law_460 ?_
    refine lv_topi (fun y_12 ey_12 => ?_)
    obtain rfl : a_3 = y_12 := ea_3.trans ey_12.symm
    skip
    refine zw_V (As := [.int a_3]) (rest := [.int (-1)]) (wr := [(mrf, .inl (cI, 8, .inl (fun _ => 0))), (mki, .inl (cI, 8, .inl (fun _ => 0))), (mpa, .inl (cI, 8, .inl (fun _ => 0))), (mta, .inl (cI, 8, .inl (fun _ => 0))), (mla, .inl (cI, 40, .inl (fun _ => 0))), (msl, .inl (cI, 40, .inl (fun _ => 0))), (mco, .inl (cI, 3, .inl (zL3 5 10 50))), (mso, .inl (cI, 8, .inl (fun _ => 0))), (msi, .inl (cI, 8, .inl (fun _ => 0))), (msh, .inl (cI, 8, .inl (fun _ => 0))), (mce, .inl (cJ, 1280, .inr (.inl (fun _ => 0)))), (mca, .inl (cJ, 160, .inr (.inl (fun _ => 0)))), (mwo, .inl (cI, 64, .inl fw_)), (mnu, .inl (cI, 10, .inl fn_)), (mte, .inl (cI, 3, .inl (fun _ => 0))), (mwa, .inl (cI, 130, .inl (fun _ => 0))), (mke, .inl (cI, 130, .inl (fun _ => 0))), (mma, .inl (cI, 3, .inl (fun _ => 0))), (mth, .inl (cI, 3, .inl (fun _ => 0))), (mtr, .inl (cI, 20, .inl (fun _ => 0)))]) ⟨hx, hb, hml, hown, hts⟩ (c_M_holds l D cI cJ cZ cP cS m0 mrf mki mpa mta mla msl mco mhe mso msi msh mce mca mwo mnu mte mwa mke mma mth mtr (a_3)  H.size) (cwV 1 hts gq_44 rfl rfl rfl (by decide +kernel) ⟨Nat.le_of_ble_eq_true rfl, Nat.le_of_ble_eq_true rfl⟩) hK hN (hZ.kept hS) hP hD hS hA [0, 8] [1, 2, 3, 4, 5, 6, 7, 9, 10, 11, 12, 13, 14, 15, 16, 17, 18, 19, 20, 21] rfl rfl (by decide) (by decide) (by decide) (va_recv hK hP (ci := 8) (q0 := 0) rfl rfl) rfl hl.1 rfl (Nat.le_of_ble_eq_true rfl) dL_law_461 ⟨Nat.le_of_ble_eq_true rfl, Nat.le_of_ble_eq_true rfl⟩ (fun r_13 u_14 H locs hr_13 hP hD hS => ?_)
    replace hP : va_P D vwCl [(mrf, .inl (cI, 8, .inl (fun _ => 0))), (mki, .inl (cI, 8, .inl (fun _ => 0))), (mpa, .inl (cI, 8, .inl (fun _ => 0))), (mta, .inl (cI, 8, .inl (fun _ => 0))), (mla, .inl (cI, 40, .inl (fun _ => 0))), (msl, .inl (cI, 40, .inl (fun _ => 0))), (mco, .inl (cI, 3, .inl (zL3 5 10 50))), (mso, .inl (cI, 8, .inl (fun _ => 0))), (msi, .inl (cI, 8, .inl (fun _ => 0))), (msh, .inl (cI, 8, .inl (fun _ => 0))), (mce, .inl (cJ, 1280, .inr (.inl (fun _ => 0)))), (mca, .inl (cJ, 160, .inr (.inl (fun _ => 0)))), (mwo, .inl (cI, 64, .inl fw_)), (mnu, .inl (cI, 10, .inl fn_)), (mte, .inl (cI, 3, .inl (fun _ => 0))), (mwa, .inl (cI, 130, .inl (fun _ => 0))), (mke, .inl (cI, 130, .inl (fun _ => 0))), (mma, .inl (cI, 3, .inl (fun _ => 0))), (mth, .inl (cI, 3, .inl (fun _ => 0))), (mtr, .inl (cI, 20, .inl (fun _ => 0)))] H := hP
    replace hD : va_D _ [(mrf, .inl (cI, 8, .inl (fun _ => 0))), (mki, .inl (cI, 8, .inl (fun _ => 0))), (mpa, .inl (cI, 8, .inl (fun _ => 0))), (mta, .inl (cI, 8, .inl (fun _ => 0))), (mla, .inl (cI, 40, .inl (fun _ => 0))), (msl, .inl (cI, 40, .inl (fun _ => 0))), (mco, .inl (cI, 3, .inl (zL3 5 10 50))), (mso, .inl (cI, 8, .inl (fun _ => 0))), (msi, .inl (cI, 8, .inl (fun _ => 0))), (msh, .inl (cI, 8, .inl (fun _ => 0))), (mce, .inl (cJ, 1280, .inr (.inl (fun _ => 0)))), (mca, .inl (cJ, 160, .inr (.inl (fun _ => 0)))), (mwo, .inl (cI, 64, .inl fw_)), (mnu, .inl (cI, 10, .inl fn_)), (mte, .inl (cI, 3, .inl (fun _ => 0))), (mwa, .inl (cI, 130, .inl (fun _ => 0))), (mke, .inl (cI, 130, .inl (fun _ => 0))), (mma, .inl (cI, 3, .inl (fun _ => 0))), (mth, .inl (cI, 3, .inl (fun _ => 0))), (mtr, .inl (cI, 20, .inl (fun _ => 0)))] := hD
    rcases hr_13 with ⟨rfl, g_15⟩ | ⟨rfl, g_16, g_17⟩ | ⟨rfl, g_18, g_19⟩
    · refine lv_icmp_eq (tgt := 1371) hx hb dL_law_464 (by decide) (fun c_20 => ?_) (fun c_20 => ?_)
      · refine lv_iinc (v := 6) (lv' := [(3, .int 6), (2, .ref m0), (1, .ref x0), (0, .ref b)]) hx hb dL_law_1371 hl (k := 0) rfl (by decide) (by decide) rfl (fun ls hl => ?_)
        refine lv_goto (tgt := 18) hx hb dL_law_1374 (by decide) ?_
        refine lv_iload_n hx hb dL_law_18 rfl (lv_at hl 0 rfl) ?_
        refine lv_aload_n hx hb dL_law_19 rfl (lv_at hl 3 rfl) ?_
        refine va_slen hx hb hX hbl hbA hS dL_law_20 ?_
        refine lv_topi (fun y_21 ey_21 => ?_)
        obtain rfl : y_21 = 6 := ey_21.trans (by decide)
        refine lv_bipush (v := 6) hx hb dL_law_21 (by decide) ?_
        refine lv_isub hx hb dL_law_23 ?_
        refine lv_topi (fun y_22 ey_22 => ?_)
        obtain rfl : y_22 = 0 := ey_22.trans (by decide)
        refine lv_icmp_gt (tgt := 1377) hx hb dL_law_24 (by decide) (fun c_23 => ?_) (fun c_23 => ?_)
        · refine lv_iconst (v := 1) hx hb dL_law_1377 (by decide) ?_
          refine va_forget (fun q hq => hS.2.2 q hq) ?_
          refine W.widen (k := 600000) (n := 7302250) (Nat.le_of_ble_eq_true rfl) (Nat.le_of_ble_eq_true rfl) ?_
          exact lw_ret hx hb hr hlocks dL_law_1378
        · exact absurd c_23 (by decide)
      · exact absurd c_20 (by decide)
    · exfalso; omega
    · exfalso; omega
  · refine lv_aload_n hx hb dL_law_455 rfl (lv_at hl 1 rfl) ?_
    refine lv_aload_n hx hb dL_law_456 rfl (lv_at hl 3 rfl) ?_
    refine lv_iload_n hx hb dL_law_457 rfl (lv_at hl 0 rfl) ?_
    refine lv_iconst (v := 1) hx hb dL_law_458 (by decide) ?_
    refine lv_iadd hx hb dL_law_459 ?_
    refine lv_topi (fun y_24 ey_24 => ?_)
    obtain rfl : y_24 = 1 := ey_24.trans (by decide)
    refine va_sld hx hb hX hbl hbA hS (zf_in (by decide) (by decide)) dL_law_460 ?_
    refine lv_topi (fun y_25 ey_25 => ?_)
    obtain rfl : a_3 = y_25 := ea_3.trans ey_25.symm
    skip
    refine zw_V (As := [.int a_3]) (rest := [.int (-1)]) (wr := [(mrf, .inl (cI, 8, .inl (fun _ => 0))), (mki, .inl (cI, 8, .inl (fun _ => 0))), (mpa, .inl (cI, 8, .inl (fun _ => 0))), (mta, .inl (cI, 8, .inl (fun _ => 0))), (mla, .inl (cI, 40, .inl (fun _ => 0))), (msl, .inl (cI, 40, .inl (fun _ => 0))), (mco, .inl (cI, 3, .inl (zL3 5 10 50))), (mso, .inl (cI, 8, .inl (fun _ => 0))), (msi, .inl (cI, 8, .inl (fun _ => 0))), (msh, .inl (cI, 8, .inl (fun _ => 0))), (mce, .inl (cJ, 1280, .inr (.inl (fun _ => 0)))), (mca, .inl (cJ, 160, .inr (.inl (fun _ => 0)))), (mwo, .inl (cI, 64, .inl fw_)), (mnu, .inl (cI, 10, .inl fn_)), (mte, .inl (cI, 3, .inl (fun _ => 0))), (mwa, .inl (cI, 130, .inl (fun _ => 0))), (mke, .inl (cI, 130, .inl (fun _ => 0))), (mma, .inl (cI, 3, .inl (fun _ => 0))), (mth, .inl (cI, 3, .inl (fun _ => 0))), (mtr, .inl (cI, 20, .inl (fun _ => 0)))]) ⟨hx, hb, hml, hown, hts⟩ (c_M_holds l D cI cJ cZ cP cS m0 mrf mki mpa mta mla msl mco mhe mso msi msh mce mca mwo mnu mte mwa mke mma mth mtr (a_3)  H.size) (cwV 1 hts gq_44 rfl rfl rfl (by decide +kernel) ⟨Nat.le_of_ble_eq_true rfl, Nat.le_of_ble_eq_true rfl⟩) hK hN (hZ.kept hS) hP hD hS hA [0, 8] [1, 2, 3, 4, 5, 6, 7, 9, 10, 11, 12, 13, 14, 15, 16, 17, 18, 19, 20, 21] rfl rfl (by decide) (by decide) (by decide) (va_recv hK hP (ci := 8) (q0 := 0) rfl rfl) rfl hl.1 rfl (Nat.le_of_ble_eq_true rfl) dL_law_461 ⟨Nat.le_of_ble_eq_true rfl, Nat.le_of_ble_eq_true rfl⟩ (fun r_26 u_27 H locs hr_26 hP hD hS => ?_)
    replace hP : va_P D vwCl [(mrf, .inl (cI, 8, .inl (fun _ => 0))), (mki, .inl (cI, 8, .inl (fun _ => 0))), (mpa, .inl (cI, 8, .inl (fun _ => 0))), (mta, .inl (cI, 8, .inl (fun _ => 0))), (mla, .inl (cI, 40, .inl (fun _ => 0))), (msl, .inl (cI, 40, .inl (fun _ => 0))), (mco, .inl (cI, 3, .inl (zL3 5 10 50))), (mso, .inl (cI, 8, .inl (fun _ => 0))), (msi, .inl (cI, 8, .inl (fun _ => 0))), (msh, .inl (cI, 8, .inl (fun _ => 0))), (mce, .inl (cJ, 1280, .inr (.inl (fun _ => 0)))), (mca, .inl (cJ, 160, .inr (.inl (fun _ => 0)))), (mwo, .inl (cI, 64, .inl fw_)), (mnu, .inl (cI, 10, .inl fn_)), (mte, .inl (cI, 3, .inl (fun _ => 0))), (mwa, .inl (cI, 130, .inl (fun _ => 0))), (mke, .inl (cI, 130, .inl (fun _ => 0))), (mma, .inl (cI, 3, .inl (fun _ => 0))), (mth, .inl (cI, 3, .inl (fun _ => 0))), (mtr, .inl (cI, 20, .inl (fun _ => 0)))] H := hP
    replace hD : va_D _ [(mrf, .inl (cI, 8, .inl (fun _ => 0))), (mki, .inl (cI, 8, .inl (fun _ => 0))), (mpa, .inl (cI, 8, .inl (fun _ => 0))), (mta, .inl (cI, 8, .inl (fun _ => 0))), (mla, .inl (cI, 40, .inl (fun _ => 0))), (msl, .inl (cI, 40, .inl (fun _ => 0))), (mco, .inl (cI, 3, .inl (zL3 5 10 50))), (mso, .inl (cI, 8, .inl (fun _ => 0))), (msi, .inl (cI, 8, .inl (fun _ => 0))), (msh, .inl (cI, 8, .inl (fun _ => 0))), (mce, .inl (cJ, 1280, .inr (.inl (fun _ => 0)))), (mca, .inl (cJ, 160, .inr (.inl (fun _ => 0)))), (mwo, .inl (cI, 64, .inl fw_)), (mnu, .inl (cI, 10, .inl fn_)), (mte, .inl (cI, 3, .inl (fun _ => 0))), (mwa, .inl (cI, 130, .inl (fun _ => 0))), (mke, .inl (cI, 130, .inl (fun _ => 0))), (mma, .inl (cI, 3, .inl (fun _ => 0))), (mth, .inl (cI, 3, .inl (fun _ => 0))), (mtr, .inl (cI, 20, .inl (fun _ => 0)))] := hD
    rcases hr_26 with ⟨rfl, g_28⟩ | ⟨rfl, g_29, g_30⟩ | ⟨rfl, g_31, g_32⟩
    · exfalso; omega
    · refine lv_icmp_eq (tgt := 1371) hx hb dL_law_464 (by decide) (fun c_33 => ?_) (fun c_33 => ?_)
      · refine lv_iinc (v := 6) (lv' := [(3, .int 6), (2, .ref m0), (1, .ref x0), (0, .ref b)]) hx hb dL_law_1371 hl (k := 0) rfl (by decide) (by decide) rfl (fun ls hl => ?_)
        refine lv_goto (tgt := 18) hx hb dL_law_1374 (by decide) ?_
        refine lv_iload_n hx hb dL_law_18 rfl (lv_at hl 0 rfl) ?_
        refine lv_aload_n hx hb dL_law_19 rfl (lv_at hl 3 rfl) ?_
        refine va_slen hx hb hX hbl hbA hS dL_law_20 ?_
        refine lv_topi (fun y_34 ey_34 => ?_)
        obtain rfl : y_34 = 6 := ey_34.trans (by decide)
        refine lv_bipush (v := 6) hx hb dL_law_21 (by decide) ?_
        refine lv_isub hx hb dL_law_23 ?_
        refine lv_topi (fun y_35 ey_35 => ?_)
        obtain rfl : y_35 = 0 := ey_35.trans (by decide)
        refine lv_icmp_gt (tgt := 1377) hx hb dL_law_24 (by decide) (fun c_36 => ?_) (fun c_36 => ?_)
        · refine lv_iconst (v := 1) hx hb dL_law_1377 (by decide) ?_
          refine va_forget (fun q hq => hS.2.2 q hq) ?_
          refine W.widen (k := 600000) (n := 7302250) (Nat.le_of_ble_eq_true rfl) (Nat.le_of_ble_eq_true rfl) ?_
          exact lw_ret hx hb hr hlocks dL_law_1378
        · exact absurd c_36 (by decide)
      · exact absurd c_33 (by decide)
    · exfalso; omega
  · refine lv_aload_n hx hb dL_law_455 rfl (lv_at hl 1 rfl) ?_
    refine lv_aload_n hx hb dL_law_456 rfl (lv_at hl 3 rfl) ?_
    refine lv_iload_n hx hb dL_law_457 rfl (lv_at hl 0 rfl) ?_
    refine lv_iconst (v := 1) hx hb dL_law_458 (by decide) ?_
    refine lv_iadd hx hb dL_law_459 ?_
    refine lv_topi (fun y_37 ey_37 => ?_)
    obtain rfl : y_37 = 1 := ey_37.trans (by decide)
    refine va_sld hx hb hX hbl hbA hS (zf_in (by decide) (by decide)) dL_law_460 ?_
    refine lv_topi (fun y_38 ey_38 => ?_)
    obtain rfl : a_3 = y_38 := ea_3.trans ey_38.symm
    skip
    refine zw_V (As := [.int a_3]) (rest := [.int (-1)]) (wr := [(mrf, .inl (cI, 8, .inl (fun _ => 0))), (mki, .inl (cI, 8, .inl (fun _ => 0))), (mpa, .inl (cI, 8, .inl (fun _ => 0))), (mta, .inl (cI, 8, .inl (fun _ => 0))), (mla, .inl (cI, 40, .inl (fun _ => 0))), (msl, .inl (cI, 40, .inl (fun _ => 0))), (mco, .inl (cI, 3, .inl (zL3 5 10 50))), (mso, .inl (cI, 8, .inl (fun _ => 0))), (msi, .inl (cI, 8, .inl (fun _ => 0))), (msh, .inl (cI, 8, .inl (fun _ => 0))), (mce, .inl (cJ, 1280, .inr (.inl (fun _ => 0)))), (mca, .inl (cJ, 160, .inr (.inl (fun _ => 0)))), (mwo, .inl (cI, 64, .inl fw_)), (mnu, .inl (cI, 10, .inl fn_)), (mte, .inl (cI, 3, .inl (fun _ => 0))), (mwa, .inl (cI, 130, .inl (fun _ => 0))), (mke, .inl (cI, 130, .inl (fun _ => 0))), (mma, .inl (cI, 3, .inl (fun _ => 0))), (mth, .inl (cI, 3, .inl (fun _ => 0))), (mtr, .inl (cI, 20, .inl (fun _ => 0)))]) ⟨hx, hb, hml, hown, hts⟩ (c_M_holds l D cI cJ cZ cP cS m0 mrf mki mpa mta mla msl mco mhe mso msi msh mce mca mwo mnu mte mwa mke mma mth mtr (a_3)  H.size) (cwV 1 hts gq_44 rfl rfl rfl (by decide +kernel) ⟨Nat.le_of_ble_eq_true rfl, Nat.le_of_ble_eq_true rfl⟩) hK hN (hZ.kept hS) hP hD hS hA [0, 8] [1, 2, 3, 4, 5, 6, 7, 9, 10, 11, 12, 13, 14, 15, 16, 17, 18, 19, 20, 21] rfl rfl (by decide) (by decide) (by decide) (va_recv hK hP (ci := 8) (q0 := 0) rfl rfl) rfl hl.1 rfl (Nat.le_of_ble_eq_true rfl) dL_law_461 ⟨Nat.le_of_ble_eq_true rfl, Nat.le_of_ble_eq_true rfl⟩ (fun r_39 u_40 H locs hr_39 hP hD hS => ?_)
    replace hP : va_P D vwCl [(mrf, .inl (cI, 8, .inl (fun _ => 0))), (mki, .inl (cI, 8, .inl (fun _ => 0))), (mpa, .inl (cI, 8, .inl (fun _ => 0))), (mta, .inl (cI, 8, .inl (fun _ => 0))), (mla, .inl (cI, 40, .inl (fun _ => 0))), (msl, .inl (cI, 40, .inl (fun _ => 0))), (mco, .inl (cI, 3, .inl (zL3 5 10 50))), (mso, .inl (cI, 8, .inl (fun _ => 0))), (msi, .inl (cI, 8, .inl (fun _ => 0))), (msh, .inl (cI, 8, .inl (fun _ => 0))), (mce, .inl (cJ, 1280, .inr (.inl (fun _ => 0)))), (mca, .inl (cJ, 160, .inr (.inl (fun _ => 0)))), (mwo, .inl (cI, 64, .inl fw_)), (mnu, .inl (cI, 10, .inl fn_)), (mte, .inl (cI, 3, .inl (fun _ => 0))), (mwa, .inl (cI, 130, .inl (fun _ => 0))), (mke, .inl (cI, 130, .inl (fun _ => 0))), (mma, .inl (cI, 3, .inl (fun _ => 0))), (mth, .inl (cI, 3, .inl (fun _ => 0))), (mtr, .inl (cI, 20, .inl (fun _ => 0)))] H := hP
    replace hD : va_D _ [(mrf, .inl (cI, 8, .inl (fun _ => 0))), (mki, .inl (cI, 8, .inl (fun _ => 0))), (mpa, .inl (cI, 8, .inl (fun _ => 0))), (mta, .inl (cI, 8, .inl (fun _ => 0))), (mla, .inl (cI, 40, .inl (fun _ => 0))), (msl, .inl (cI, 40, .inl (fun _ => 0))), (mco, .inl (cI, 3, .inl (zL3 5 10 50))), (mso, .inl (cI, 8, .inl (fun _ => 0))), (msi, .inl (cI, 8, .inl (fun _ => 0))), (msh, .inl (cI, 8, .inl (fun _ => 0))), (mce, .inl (cJ, 1280, .inr (.inl (fun _ => 0)))), (mca, .inl (cJ, 160, .inr (.inl (fun _ => 0)))), (mwo, .inl (cI, 64, .inl fw_)), (mnu, .inl (cI, 10, .inl fn_)), (mte, .inl (cI, 3, .inl (fun _ => 0))), (mwa, .inl (cI, 130, .inl (fun _ => 0))), (mke, .inl (cI, 130, .inl (fun _ => 0))), (mma, .inl (cI, 3, .inl (fun _ => 0))), (mth, .inl (cI, 3, .inl (fun _ => 0))), (mtr, .inl (cI, 20, .inl (fun _ => 0)))] := hD
    rcases hr_39 with ⟨rfl, g_41⟩ | ⟨rfl, g_42, g_43⟩ | ⟨rfl, g_44, g_45⟩
    · exfalso; omega
    · exfalso; omega
    · refine lv_icmp_eq (tgt := 1371) hx hb dL_law_464 (by decide) (fun c_46 => ?_) (fun c_46 => ?_)
      · refine lv_iinc (v := 6) (lv' := [(3, .int 6), (2, .ref m0), (1, .ref x0), (0, .ref b)]) hx hb dL_law_1371 hl (k := 0) rfl (by decide) (by decide) rfl (fun ls hl => ?_)
        refine lv_goto (tgt := 18) hx hb dL_law_1374 (by decide) ?_
        refine lv_iload_n hx hb dL_law_18 rfl (lv_at hl 0 rfl) ?_
        refine lv_aload_n hx hb dL_law_19 rfl (lv_at hl 3 rfl) ?_
        refine va_slen hx hb hX hbl hbA hS dL_law_20 ?_
        refine lv_topi (fun y_47 ey_47 => ?_)
        obtain rfl : y_47 = 6 := ey_47.trans (by decide)
        refine lv_bipush (v := 6) hx hb dL_law_21 (by decide) ?_
        refine lv_isub hx hb dL_law_23 ?_
        refine lv_topi (fun y_48 ey_48 => ?_)
        obtain rfl : y_48 = 0 := ey_48.trans (by decide)
        refine lv_icmp_gt (tgt := 1377) hx hb dL_law_24 (by decide) (fun c_49 => ?_) (fun c_49 => ?_)
        · refine lv_iconst (v := 1) hx hb dL_law_1377 (by decide) ?_
          refine va_forget (fun q hq => hS.2.2 q hq) ?_
          refine W.widen (k := 600000) (n := 7302250) (Nat.le_of_ble_eq_true rfl) (Nat.le_of_ble_eq_true rfl) ?_
          exact lw_ret hx hb hr hlocks dL_law_1378
        · exact absurd c_49 (by decide)
      · exact absurd c_46 (by decide)
set_option maxHeartbeats 8000000 in
set_option maxRecDepth 100000 in
theorem law_case_6 {p : Program} {l : Launch} {e : Env} {s : State} {m : MethodId} {below : List Frame} {meth : Method} {c : Code} {D : va_G} {cI cJ cZ cP cS : ClassId} {b : Nat} {xs_ : Nat → Int32} (x0 xs j0 k0 w0 rd mv xr z0 jp jc zl zs kz kp kc kzl kzs wk wl wc wp ri rl mb m0 mrf mki mpa mta mla msl mco mhe mso msi msh mce mca mwo mnu mte mwa mke mma mth mtr : Nat) (sh el : Nat → Nat) (fw_ fn_ : Nat → Int32) (C0 : lw_At p s m meth c b 6 xs_) (hK : va_K D vwCl (zKT cI cJ cZ cP cS) s) (hN : zN s) (hZ : zSt (fun q : Nat => s.heap.size ≤ q) s s.heap) (H : Heap) (locs : List Loc) (hP : va_P D vwCl (zLW cI cJ cZ cP cS x0 xs j0 k0 w0 rd mv xr z0 jp jc zl zs kz kp kc kzl kzs wk wl wc wp ri rl mb m0 mrf mki mpa mta mla msl mco mhe mso msi msh mce mca mwo mnu mte mwa mke mma mth mtr sh el fw_ fn_) H) (hD : va_D (fun q : Nat => s.heap.size ≤ q) (zLW cI cJ cZ cP cS x0 xs j0 k0 w0 rd mv xr z0 jp jc zl zs kz kp kc kzl kzs wk wl wc wp ri rl mb m0 mrf mki mpa mta mla msl mco mhe mso msi msh mce mca mwo mnu mte mwa mke mma mth mtr sh el fw_ fn_)) (hS : va_S (fun q : Nat => s.heap.size ≤ q) s.heap H locs) (ls : Array Slot) (hl : lv_has ls 4 [(3, .int 0), (2, .ref m0), (1, .ref x0), (0, .ref b)]) : W p l e room_1 s m #[Value.ref b] below meth c H locs 100 10000 (lw_Z below #[Value.ref b] s) (F0 m 469 ls []) := by
  obtain ⟨hx, hb, hr, hml, hown0, hts, hX, hbl, hlocks, hgv⟩ := id C0
  have hown : s.vm.findClass RL = some m.cls := hown0
  have hA : ∀ q : Nat, s.heap.size ≤ q → (fun q : Nat => s.heap.size ≤ q) q := fun _ h => h
  have hbA : ¬ (fun q : Nat => s.heap.size ≤ q) b := Nat.not_le.mpr hbl
  replace hP : va_P D vwCl ((x0, .inr (7, [.ref xs, .ref j0, .ref k0, .ref w0, .ref rd, .ref mv, .ref xr, .int 0, .int (-1)])) :: (xs, .inl (cS, 8, .inr (.inr (.inr (.inr (zS sh)))))) :: (j0, .inr (0, [.ref z0, .ref jp, .ref jc, .int 0, .int 0, .int 0, .int 60, .int 0, .int 1])) :: (z0, .inr (6, [.ref zl, .ref zs, .int 20, .int 0, .int 3])) :: (zl, .inl (cZ, 40, .inl (fun _ => 0))) :: (zs, .inl (cI, 40, .inl (fun _ => 0))) :: (jp, .inl (cP, 8, .inr (.inr (.inr (.inr (fun _ => none)))))) :: (jc, .inl (cI, 3, .inl (zL3 5 10 50))) :: (k0, .inr (0, [.ref kz, .ref kp, .ref kc, .int 0, .int 0, .int 0, .int 60, .int 0, .int 1])) :: (kz, .inr (6, [.ref kzl, .ref kzs, .int 20, .int 0, .int 3])) :: (kzl, .inl (cZ, 40, .inl (fun _ => 0))) :: (kzs, .inl (cI, 40, .inl (fun _ => 0))) :: (kp, .inl (cP, 8, .inr (.inr (.inr (.inr (fun _ => none)))))) :: (kc, .inl (cI, 3, .inl (zL3 5 10 50))) :: (w0, .inr (5, [.ref wk, .ref wl, .ref wc, .ref wp, .int 0, .int 0, .int 0])) :: (wk, .inl (cI, 125, .inl (fun _ => 0))) :: (wl, .inl (cI, 125, .inl (fun _ => 0))) :: (wc, .inl (cI, 3, .inl (fun _ => 0))) :: (wp, .inl (cP, 8, .inr (.inr (.inr (.inr (fun _ => none)))))) :: (rd, .inr (3, [.ref ri, .ref rl, .int 0, .int 0, .int 0, .int (-1), .int 0, .int 0])) :: (ri, .inl (cI, 132, .inl (fun _ => 0))) :: (rl, .inl (cI, 160, .inl (fun _ => 0))) :: (mv, .inr (1, [.ref mb, .int 0, .int 0, .int 0, .int 0])) :: (mb, .inl (cI, 20, .inl (fun _ => 0))) :: (xr, .inl (cI, 8, .inl (fun _ => 0))) :: ((sh 0), .inr (4, [.ref (el 0), .int (-1), .int 0])) :: ((el 0), .inl (cJ, 160, .inr (.inl (fun _ => 0)))) :: ((sh 1), .inr (4, [.ref (el 1), .int (-1), .int 0])) :: ((el 1), .inl (cJ, 160, .inr (.inl (fun _ => 0)))) :: ((sh 2), .inr (4, [.ref (el 2), .int (-1), .int 0])) :: ((el 2), .inl (cJ, 160, .inr (.inl (fun _ => 0)))) :: ((sh 3), .inr (4, [.ref (el 3), .int (-1), .int 0])) :: ((el 3), .inl (cJ, 160, .inr (.inl (fun _ => 0)))) :: ((sh 4), .inr (4, [.ref (el 4), .int (-1), .int 0])) :: ((el 4), .inl (cJ, 160, .inr (.inl (fun _ => 0)))) :: ((sh 5), .inr (4, [.ref (el 5), .int (-1), .int 0])) :: ((el 5), .inl (cJ, 160, .inr (.inl (fun _ => 0)))) :: ((sh 6), .inr (4, [.ref (el 6), .int (-1), .int 0])) :: ((el 6), .inl (cJ, 160, .inr (.inl (fun _ => 0)))) :: ((sh 7), .inr (4, [.ref (el 7), .int (-1), .int 0])) :: ((el 7), .inl (cJ, 160, .inr (.inl (fun _ => 0)))) :: (m0, .inr (8, (.int 0 :: .int 20 :: .int 0 :: .int 0 :: .int 0 :: .int 60 :: .int 0 :: .int 3 :: .int 1 :: .int (-1) :: .ref mrf :: .ref mki :: .ref mpa :: .ref mta :: .ref mla :: .ref msl :: .ref mco :: .ref mhe :: .ref mso :: .ref msi :: .ref msh :: .ref mce :: .ref mca :: .ref mwo :: .ref mnu :: .ref mte :: .int 0 :: .int 0 :: .int 0 :: .int 0 :: .int 0 :: .ref mwa :: .ref mke :: .ref mma :: .ref mth :: .ref mtr :: .int 0 :: .int 0 :: []))) :: (mrf, .inl (cI, 8, .inl (fun _ => 0))) :: (mki, .inl (cI, 8, .inl (fun _ => 0))) :: (mpa, .inl (cI, 8, .inl (fun _ => 0))) :: (mta, .inl (cI, 8, .inl (fun _ => 0))) :: (mla, .inl (cI, 40, .inl (fun _ => 0))) :: (msl, .inl (cI, 40, .inl (fun _ => 0))) :: (mco, .inl (cI, 3, .inl (zL3 5 10 50))) :: (mhe, .inl (cI, 8, .inl (fun _ => 0))) :: (mso, .inl (cI, 8, .inl (fun _ => 0))) :: (msi, .inl (cI, 8, .inl (fun _ => 0))) :: (msh, .inl (cI, 8, .inl (fun _ => 0))) :: (mce, .inl (cJ, 1280, .inr (.inl (fun _ => 0)))) :: (mca, .inl (cJ, 160, .inr (.inl (fun _ => 0)))) :: (mwo, .inl (cI, 64, .inl fw_)) :: (mnu, .inl (cI, 10, .inl fn_)) :: (mte, .inl (cI, 3, .inl (fun _ => 0))) :: (mwa, .inl (cI, 130, .inl (fun _ => 0))) :: (mke, .inl (cI, 130, .inl (fun _ => 0))) :: (mma, .inl (cI, 3, .inl (fun _ => 0))) :: (mth, .inl (cI, 3, .inl (fun _ => 0))) :: (mtr, .inl (cI, 20, .inl (fun _ => 0))) :: []) H := hP
  replace hD : va_D _ ((x0, .inr (7, [.ref xs, .ref j0, .ref k0, .ref w0, .ref rd, .ref mv, .ref xr, .int 0, .int (-1)])) :: (xs, .inl (cS, 8, .inr (.inr (.inr (.inr (zS sh)))))) :: (j0, .inr (0, [.ref z0, .ref jp, .ref jc, .int 0, .int 0, .int 0, .int 60, .int 0, .int 1])) :: (z0, .inr (6, [.ref zl, .ref zs, .int 20, .int 0, .int 3])) :: (zl, .inl (cZ, 40, .inl (fun _ => 0))) :: (zs, .inl (cI, 40, .inl (fun _ => 0))) :: (jp, .inl (cP, 8, .inr (.inr (.inr (.inr (fun _ => none)))))) :: (jc, .inl (cI, 3, .inl (zL3 5 10 50))) :: (k0, .inr (0, [.ref kz, .ref kp, .ref kc, .int 0, .int 0, .int 0, .int 60, .int 0, .int 1])) :: (kz, .inr (6, [.ref kzl, .ref kzs, .int 20, .int 0, .int 3])) :: (kzl, .inl (cZ, 40, .inl (fun _ => 0))) :: (kzs, .inl (cI, 40, .inl (fun _ => 0))) :: (kp, .inl (cP, 8, .inr (.inr (.inr (.inr (fun _ => none)))))) :: (kc, .inl (cI, 3, .inl (zL3 5 10 50))) :: (w0, .inr (5, [.ref wk, .ref wl, .ref wc, .ref wp, .int 0, .int 0, .int 0])) :: (wk, .inl (cI, 125, .inl (fun _ => 0))) :: (wl, .inl (cI, 125, .inl (fun _ => 0))) :: (wc, .inl (cI, 3, .inl (fun _ => 0))) :: (wp, .inl (cP, 8, .inr (.inr (.inr (.inr (fun _ => none)))))) :: (rd, .inr (3, [.ref ri, .ref rl, .int 0, .int 0, .int 0, .int (-1), .int 0, .int 0])) :: (ri, .inl (cI, 132, .inl (fun _ => 0))) :: (rl, .inl (cI, 160, .inl (fun _ => 0))) :: (mv, .inr (1, [.ref mb, .int 0, .int 0, .int 0, .int 0])) :: (mb, .inl (cI, 20, .inl (fun _ => 0))) :: (xr, .inl (cI, 8, .inl (fun _ => 0))) :: ((sh 0), .inr (4, [.ref (el 0), .int (-1), .int 0])) :: ((el 0), .inl (cJ, 160, .inr (.inl (fun _ => 0)))) :: ((sh 1), .inr (4, [.ref (el 1), .int (-1), .int 0])) :: ((el 1), .inl (cJ, 160, .inr (.inl (fun _ => 0)))) :: ((sh 2), .inr (4, [.ref (el 2), .int (-1), .int 0])) :: ((el 2), .inl (cJ, 160, .inr (.inl (fun _ => 0)))) :: ((sh 3), .inr (4, [.ref (el 3), .int (-1), .int 0])) :: ((el 3), .inl (cJ, 160, .inr (.inl (fun _ => 0)))) :: ((sh 4), .inr (4, [.ref (el 4), .int (-1), .int 0])) :: ((el 4), .inl (cJ, 160, .inr (.inl (fun _ => 0)))) :: ((sh 5), .inr (4, [.ref (el 5), .int (-1), .int 0])) :: ((el 5), .inl (cJ, 160, .inr (.inl (fun _ => 0)))) :: ((sh 6), .inr (4, [.ref (el 6), .int (-1), .int 0])) :: ((el 6), .inl (cJ, 160, .inr (.inl (fun _ => 0)))) :: ((sh 7), .inr (4, [.ref (el 7), .int (-1), .int 0])) :: ((el 7), .inl (cJ, 160, .inr (.inl (fun _ => 0)))) :: (m0, .inr (8, (.int 0 :: .int 20 :: .int 0 :: .int 0 :: .int 0 :: .int 60 :: .int 0 :: .int 3 :: .int 1 :: .int (-1) :: .ref mrf :: .ref mki :: .ref mpa :: .ref mta :: .ref mla :: .ref msl :: .ref mco :: .ref mhe :: .ref mso :: .ref msi :: .ref msh :: .ref mce :: .ref mca :: .ref mwo :: .ref mnu :: .ref mte :: .int 0 :: .int 0 :: .int 0 :: .int 0 :: .int 0 :: .ref mwa :: .ref mke :: .ref mma :: .ref mth :: .ref mtr :: .int 0 :: .int 0 :: []))) :: (mrf, .inl (cI, 8, .inl (fun _ => 0))) :: (mki, .inl (cI, 8, .inl (fun _ => 0))) :: (mpa, .inl (cI, 8, .inl (fun _ => 0))) :: (mta, .inl (cI, 8, .inl (fun _ => 0))) :: (mla, .inl (cI, 40, .inl (fun _ => 0))) :: (msl, .inl (cI, 40, .inl (fun _ => 0))) :: (mco, .inl (cI, 3, .inl (zL3 5 10 50))) :: (mhe, .inl (cI, 8, .inl (fun _ => 0))) :: (mso, .inl (cI, 8, .inl (fun _ => 0))) :: (msi, .inl (cI, 8, .inl (fun _ => 0))) :: (msh, .inl (cI, 8, .inl (fun _ => 0))) :: (mce, .inl (cJ, 1280, .inr (.inl (fun _ => 0)))) :: (mca, .inl (cJ, 160, .inr (.inl (fun _ => 0)))) :: (mwo, .inl (cI, 64, .inl fw_)) :: (mnu, .inl (cI, 10, .inl fn_)) :: (mte, .inl (cI, 3, .inl (fun _ => 0))) :: (mwa, .inl (cI, 130, .inl (fun _ => 0))) :: (mke, .inl (cI, 130, .inl (fun _ => 0))) :: (mma, .inl (cI, 3, .inl (fun _ => 0))) :: (mth, .inl (cI, 3, .inl (fun _ => 0))) :: (mtr, .inl (cI, 20, .inl (fun _ => 0))) :: []) := hD
  refine lv_aload_n hx hb dL_law_469 rfl (lv_at hl 2 rfl) ?_
  refine lv_aload_n hx hb dL_law_470 rfl (lv_at hl 3 rfl) ?_
  refine lv_iload_n hx hb dL_law_471 rfl (lv_at hl 0 rfl) ?_
  refine lv_iconst (v := 1) hx hb dL_law_472 (by decide) ?_
  refine lv_iadd hx hb dL_law_473 ?_
  refine lv_topi (fun y_1 ey_1 => ?_)
  obtain rfl : y_1 = 1 := ey_1.trans (by decide)
  refine va_sld hx hb hX hbl hbA hS (zf_in (by decide) (by decide)) dL_law_474 ?_
  refine lv_topi (fun a_3 ea_3 => ?_)
  refine lv_aload_n hx hb dL_law_475 rfl (lv_at hl 3 rfl) ?_
  refine lv_iload_n hx hb dL_law_476 rfl (lv_at hl 0 rfl) ?_
  refine lv_iconst (v := 2) hx hb dL_law_477 (by decide) ?_
  refine lv_iadd hx hb dL_law_478 ?_
  refine lv_topi (fun y_4 ey_4 => ?_)
  obtain rfl : y_4 = 2 := ey_4.trans (by decide)
  refine va_sld hx hb hX hbl hbA hS (zf_in (by decide) (by decide)) dL_law_479 ?_
  refine lv_topi (fun a_6 ea_6 => ?_)
  skip
  refine zw_V (As := [.int a_3, .int a_6]) (rest := []) (wr := ((m0, .inr (8, (.int 0 :: .int 20 :: .int 0 :: .int 0 :: .int 0 :: .int 60 :: .int 0 :: .int 3 :: .int 1 :: .int (-1) :: .ref mrf :: .ref mki :: .ref mpa :: .ref mta :: .ref mla :: .ref msl :: .ref mco :: .ref mhe :: .ref mso :: .ref msi :: .ref msh :: .ref mce :: .ref mca :: .ref mwo :: .ref mnu :: .ref mte :: .int 0 :: .int 0 :: .int 0 :: .int 0 :: .int 0 :: .ref mwa :: .ref mke :: .ref mma :: .ref mth :: .ref mtr :: .int 0 :: .int 0 :: []))) :: (mrf, .inl (cI, 8, .inl (fun _ => 0))) :: (mki, .inl (cI, 8, .inl (fun _ => 0))) :: (mpa, .inl (cI, 8, .inl (fun _ => 0))) :: (mta, .inl (cI, 8, .inl (fun _ => 0))) :: (mla, .inl (cI, 40, .inl (fun _ => 0))) :: (msl, .inl (cI, 40, .inl (fun _ => 0))) :: (mco, .inl (cI, 3, .inl (zL3 5 10 50))) :: (mhe, .inl (cI, 8, .inl (fun _ => 0))) :: (mso, .inl (cI, 8, .inl (fun _ => 0))) :: (msi, .inl (cI, 8, .inl (fun _ => 0))) :: (msh, .inl (cI, 8, .inl (fun _ => 0))) :: (mce, .inl (cJ, 1280, .inr (.inl (fun _ => 0)))) :: (mca, .inl (cJ, 160, .inr (.inl (fun _ => 0)))) :: (mwo, .inl (cI, 64, .inl fw_)) :: (mnu, .inl (cI, 10, .inl fn_)) :: (mte, .inl (cI, 3, .inl (fun _ => 0))) :: (mwa, .inl (cI, 130, .inl (fun _ => 0))) :: (mke, .inl (cI, 130, .inl (fun _ => 0))) :: (mma, .inl (cI, 3, .inl (fun _ => 0))) :: (mth, .inl (cI, 3, .inl (fun _ => 0))) :: (mtr, .inl (cI, 20, .inl (fun _ => 0))) :: [])) ⟨hx, hb, hml, hown, hts⟩ (c_says l D cI cJ cZ cP cS x0 xs j0 k0 w0 rd mv xr sh el (a_3) (a_6)  H.size) (cwV 2 hts gq_45 rfl rfl rfl (by decide +kernel) ⟨Nat.le_of_ble_eq_true rfl, Nat.le_of_ble_eq_true rfl⟩) hK hN (hZ.kept hS) hP hD hS hA [0, 24, 1, 25, 27, 29, 31, 33, 35, 37, 39] [41, 42, 43, 44, 45, 46, 47, 48, 49, 50, 51, 52, 53, 54, 55, 56, 57, 58, 59, 60, 61, 62] rfl rfl (by decide) (by decide) (by decide) (va_recv hK hP (ci := 7) (q0 := 0) rfl rfl) rfl hl.1 rfl (Nat.le_of_ble_eq_true rfl) dL_law_480 ⟨Nat.le_of_ble_eq_true rfl, Nat.le_of_ble_eq_true rfl⟩ (fun r_7 u_8 H locs hr_7 hP hD hS => ?_)
  replace hP : va_P D vwCl ((m0, .inr (8, (.int 0 :: .int 20 :: .int 0 :: .int 0 :: .int 0 :: .int 60 :: .int 0 :: .int 3 :: .int 1 :: .int (-1) :: .ref mrf :: .ref mki :: .ref mpa :: .ref mta :: .ref mla :: .ref msl :: .ref mco :: .ref mhe :: .ref mso :: .ref msi :: .ref msh :: .ref mce :: .ref mca :: .ref mwo :: .ref mnu :: .ref mte :: .int 0 :: .int 0 :: .int 0 :: .int 0 :: .int 0 :: .ref mwa :: .ref mke :: .ref mma :: .ref mth :: .ref mtr :: .int 0 :: .int 0 :: []))) :: (mrf, .inl (cI, 8, .inl (fun _ => 0))) :: (mki, .inl (cI, 8, .inl (fun _ => 0))) :: (mpa, .inl (cI, 8, .inl (fun _ => 0))) :: (mta, .inl (cI, 8, .inl (fun _ => 0))) :: (mla, .inl (cI, 40, .inl (fun _ => 0))) :: (msl, .inl (cI, 40, .inl (fun _ => 0))) :: (mco, .inl (cI, 3, .inl (zL3 5 10 50))) :: (mhe, .inl (cI, 8, .inl (fun _ => 0))) :: (mso, .inl (cI, 8, .inl (fun _ => 0))) :: (msi, .inl (cI, 8, .inl (fun _ => 0))) :: (msh, .inl (cI, 8, .inl (fun _ => 0))) :: (mce, .inl (cJ, 1280, .inr (.inl (fun _ => 0)))) :: (mca, .inl (cJ, 160, .inr (.inl (fun _ => 0)))) :: (mwo, .inl (cI, 64, .inl fw_)) :: (mnu, .inl (cI, 10, .inl fn_)) :: (mte, .inl (cI, 3, .inl (fun _ => 0))) :: (mwa, .inl (cI, 130, .inl (fun _ => 0))) :: (mke, .inl (cI, 130, .inl (fun _ => 0))) :: (mma, .inl (cI, 3, .inl (fun _ => 0))) :: (mth, .inl (cI, 3, .inl (fun _ => 0))) :: (mtr, .inl (cI, 20, .inl (fun _ => 0))) :: []) H := hP
  replace hD : va_D _ ((m0, .inr (8, (.int 0 :: .int 20 :: .int 0 :: .int 0 :: .int 0 :: .int 60 :: .int 0 :: .int 3 :: .int 1 :: .int (-1) :: .ref mrf :: .ref mki :: .ref mpa :: .ref mta :: .ref mla :: .ref msl :: .ref mco :: .ref mhe :: .ref mso :: .ref msi :: .ref msh :: .ref mce :: .ref mca :: .ref mwo :: .ref mnu :: .ref mte :: .int 0 :: .int 0 :: .int 0 :: .int 0 :: .int 0 :: .ref mwa :: .ref mke :: .ref mma :: .ref mth :: .ref mtr :: .int 0 :: .int 0 :: []))) :: (mrf, .inl (cI, 8, .inl (fun _ => 0))) :: (mki, .inl (cI, 8, .inl (fun _ => 0))) :: (mpa, .inl (cI, 8, .inl (fun _ => 0))) :: (mta, .inl (cI, 8, .inl (fun _ => 0))) :: (mla, .inl (cI, 40, .inl (fun _ => 0))) :: (msl, .inl (cI, 40, .inl (fun _ => 0))) :: (mco, .inl (cI, 3, .inl (zL3 5 10 50))) :: (mhe, .inl (cI, 8, .inl (fun _ => 0))) :: (mso, .inl (cI, 8, .inl (fun _ => 0))) :: (msi, .inl (cI, 8, .inl (fun _ => 0))) :: (msh, .inl (cI, 8, .inl (fun _ => 0))) :: (mce, .inl (cJ, 1280, .inr (.inl (fun _ => 0)))) :: (mca, .inl (cJ, 160, .inr (.inl (fun _ => 0)))) :: (mwo, .inl (cI, 64, .inl fw_)) :: (mnu, .inl (cI, 10, .inl fn_)) :: (mte, .inl (cI, 3, .inl (fun _ => 0))) :: (mwa, .inl (cI, 130, .inl (fun _ => 0))) :: (mke, .inl (cI, 130, .inl (fun _ => 0))) :: (mma, .inl (cI, 3, .inl (fun _ => 0))) :: (mth, .inl (cI, 3, .inl (fun _ => 0))) :: (mtr, .inl (cI, 20, .inl (fun _ => 0))) :: []) := hD
  rcases hr_7 with ⟨rfl, g_9⟩ | ⟨rfl, g_10, g_11⟩ | ⟨rfl, g_12, g_13, g_14⟩ | ⟨rfl, g_15, g_16, g_17, g_18⟩ | ⟨rfl, g_19, g_20, g_21, g_22⟩
  · refine lv_aload_n hx hb dL_law_483 rfl (lv_at hl 1 rfl) ?_
    refine lv_aload_n hx hb dL_law_484 rfl (lv_at hl 3 rfl) ?_
    refine lv_iload_n hx hb dL_law_485 rfl (lv_at hl 0 rfl) ?_
    refine lv_iconst (v := 1) hx hb dL_law_486 (by decide) ?_
    refine lv_iadd hx hb dL_law_487 ?_
    refine lv_topi (fun y_23 ey_23 => ?_)
    obtain rfl : y_23 = 1 := ey_23.trans (by decide)
    refine va_sld hx hb hX hbl hbA hS (zf_in (by decide) (by decide)) dL_law_488 ?_
    refine lv_topi (fun y_24 ey_24 => ?_)
    obtain rfl : a_3 = y_24 := ea_3.trans ey_24.symm
    refine lv_aload_n hx hb dL_law_489 rfl (lv_at hl 3 rfl) ?_
    refine lv_iload_n hx hb dL_law_490 rfl (lv_at hl 0 rfl) ?_
    refine lv_iconst (v := 2) hx hb dL_law_491 (by decide) ?_
    refine lv_iadd hx hb dL_law_492 ?_
    refine lv_topi (fun y_25 ey_25 => ?_)
    obtain rfl : y_25 = 2 := ey_25.trans (by decide)
    refine va_sld hx hb hX hbl hbA hS (zf_in (by decide) (by decide)) dL_law_493 ?_
    refine lv_topi (fun y_26 ey_26 => ?_)
    obtain rfl : a_6 = y_26 := ea_6.trans ey_26.symm
    skip
    refine zw_V (As := [.int a_3, .int a_6]) (rest := [.int (-1)]) (wr := [(mki, .inl (cI, 8, .inl (fun _ => 0))), (mpa, .inl (cI, 8, .inl (fun _ => 0))), (mta, .inl (cI, 8, .inl (fun _ => 0))), (mla, .inl (cI, 40, .inl (fun _ => 0))), (msl, .inl (cI, 40, .inl (fun _ => 0))), (mco, .inl (cI, 3, .inl (zL3 5 10 50))), (mso, .inl (cI, 8, .inl (fun _ => 0))), (msi, .inl (cI, 8, .inl (fun _ => 0))), (msh, .inl (cI, 8, .inl (fun _ => 0))), (mce, .inl (cJ, 1280, .inr (.inl (fun _ => 0)))), (mca, .inl (cJ, 160, .inr (.inl (fun _ => 0)))), (mwo, .inl (cI, 64, .inl fw_)), (mnu, .inl (cI, 10, .inl fn_)), (mte, .inl (cI, 3, .inl (fun _ => 0))), (mwa, .inl (cI, 130, .inl (fun _ => 0))), (mke, .inl (cI, 130, .inl (fun _ => 0))), (mma, .inl (cI, 3, .inl (fun _ => 0))), (mth, .inl (cI, 3, .inl (fun _ => 0))), (mtr, .inl (cI, 20, .inl (fun _ => 0)))]) ⟨hx, hb, hml, hown, hts⟩ (c_M_says l D cI cJ cZ cP cS m0 mrf mki mpa mta mla msl mco mhe mso msi msh mce mca mwo mnu mte mwa mke mma mth mtr (a_3) (a_6)  H.size) (cwV 2 hts gq_48 rfl rfl rfl (by decide +kernel) ⟨Nat.le_of_ble_eq_true rfl, Nat.le_of_ble_eq_true rfl⟩) hK hN (hZ.kept hS) hP hD hS hA [0, 1, 8] [2, 3, 4, 5, 6, 7, 9, 10, 11, 12, 13, 14, 15, 16, 17, 18, 19, 20, 21] rfl rfl (by decide) (by decide) (by decide) (va_recv hK hP (ci := 8) (q0 := 0) rfl rfl) rfl hl.1 rfl (Nat.le_of_ble_eq_true rfl) dL_law_494 ⟨Nat.le_of_ble_eq_true rfl, Nat.le_of_ble_eq_true rfl⟩ (fun r_27 u_28 H locs hr_27 hP hD hS => ?_)
    replace hP : va_P D vwCl [(mki, .inl (cI, 8, .inl (fun _ => 0))), (mpa, .inl (cI, 8, .inl (fun _ => 0))), (mta, .inl (cI, 8, .inl (fun _ => 0))), (mla, .inl (cI, 40, .inl (fun _ => 0))), (msl, .inl (cI, 40, .inl (fun _ => 0))), (mco, .inl (cI, 3, .inl (zL3 5 10 50))), (mso, .inl (cI, 8, .inl (fun _ => 0))), (msi, .inl (cI, 8, .inl (fun _ => 0))), (msh, .inl (cI, 8, .inl (fun _ => 0))), (mce, .inl (cJ, 1280, .inr (.inl (fun _ => 0)))), (mca, .inl (cJ, 160, .inr (.inl (fun _ => 0)))), (mwo, .inl (cI, 64, .inl fw_)), (mnu, .inl (cI, 10, .inl fn_)), (mte, .inl (cI, 3, .inl (fun _ => 0))), (mwa, .inl (cI, 130, .inl (fun _ => 0))), (mke, .inl (cI, 130, .inl (fun _ => 0))), (mma, .inl (cI, 3, .inl (fun _ => 0))), (mth, .inl (cI, 3, .inl (fun _ => 0))), (mtr, .inl (cI, 20, .inl (fun _ => 0)))] H := hP
    replace hD : va_D _ [(mki, .inl (cI, 8, .inl (fun _ => 0))), (mpa, .inl (cI, 8, .inl (fun _ => 0))), (mta, .inl (cI, 8, .inl (fun _ => 0))), (mla, .inl (cI, 40, .inl (fun _ => 0))), (msl, .inl (cI, 40, .inl (fun _ => 0))), (mco, .inl (cI, 3, .inl (zL3 5 10 50))), (mso, .inl (cI, 8, .inl (fun _ => 0))), (msi, .inl (cI, 8, .inl (fun _ => 0))), (msh, .inl (cI, 8, .inl (fun _ => 0))), (mce, .inl (cJ, 1280, .inr (.inl (fun _ => 0)))), (mca, .inl (cJ, 160, .inr (.inl (fun _ => 0)))), (mwo, .inl (cI, 64, .inl fw_)), (mnu, .inl (cI, 10, .inl fn_)), (mte, .inl (cI, 3, .inl (fun _ => 0))), (mwa, .inl (cI, 130, .inl (fun _ => 0))), (mke, .inl (cI, 130, .inl (fun _ => 0))), (mma, .inl (cI, 3, .inl (fun _ => 0))), (mth, .inl (cI, 3, .inl (fun _ => 0))), (mtr, .inl (cI, 20, .inl (fun _ => 0)))] := hD
    rcases hr_27 with ⟨rfl, g_29⟩ | ⟨rfl, g_30, g_31⟩ | ⟨rfl, g_32, g_33, g_34⟩ | ⟨rfl, g_35, g_36, g_37, g_38⟩ | ⟨rfl, g_39, g_40, g_41, g_42⟩
    · refine lv_icmp_eq (tgt := 1371) hx hb dL_law_497 (by decide) (fun c_43 => ?_) (fun c_43 => ?_)
      · refine lv_iinc (v := 6) (lv' := [(3, .int 6), (2, .ref m0), (1, .ref x0), (0, .ref b)]) hx hb dL_law_1371 hl (k := 0) rfl (by decide) (by decide) rfl (fun ls hl => ?_)
        refine lv_goto (tgt := 18) hx hb dL_law_1374 (by decide) ?_
        refine lv_iload_n hx hb dL_law_18 rfl (lv_at hl 0 rfl) ?_
        refine lv_aload_n hx hb dL_law_19 rfl (lv_at hl 3 rfl) ?_
        refine va_slen hx hb hX hbl hbA hS dL_law_20 ?_
        refine lv_topi (fun y_44 ey_44 => ?_)
        obtain rfl : y_44 = 6 := ey_44.trans (by decide)
        refine lv_bipush (v := 6) hx hb dL_law_21 (by decide) ?_
        refine lv_isub hx hb dL_law_23 ?_
        refine lv_topi (fun y_45 ey_45 => ?_)
        obtain rfl : y_45 = 0 := ey_45.trans (by decide)
        refine lv_icmp_gt (tgt := 1377) hx hb dL_law_24 (by decide) (fun c_46 => ?_) (fun c_46 => ?_)
        · refine lv_iconst (v := 1) hx hb dL_law_1377 (by decide) ?_
          refine va_forget (fun q hq => hS.2.2 q hq) ?_
          refine W.widen (k := 600000) (n := 7302250) (Nat.le_of_ble_eq_true rfl) (Nat.le_of_ble_eq_true rfl) ?_
          exact lw_ret hx hb hr hlocks dL_law_1378
        · exact absurd c_46 (by decide)
      · exact absurd c_43 (by decide)
    · exfalso; omega
    · exfalso; omega
    · exfalso; omega
    · exfalso; omega
  · refine lv_aload_n hx hb dL_law_483 rfl (lv_at hl 1 rfl) ?_
    refine lv_aload_n hx hb dL_law_484 rfl (lv_at hl 3 rfl) ?_
    refine lv_iload_n hx hb dL_law_485 rfl (lv_at hl 0 rfl) ?_
    refine lv_iconst (v := 1) hx hb dL_law_486 (by decide) ?_
    refine lv_iadd hx hb dL_law_487 ?_
    refine lv_topi (fun y_47 ey_47 => ?_)
    obtain rfl : y_47 = 1 := ey_47.trans (by decide)
    refine va_sld hx hb hX hbl hbA hS (zf_in (by decide) (by decide)) dL_law_488 ?_
    refine lv_topi (fun y_48 ey_48 => ?_)
    obtain rfl : a_3 = y_48 := ea_3.trans ey_48.symm
    refine lv_aload_n hx hb dL_law_489 rfl (lv_at hl 3 rfl) ?_
    refine lv_iload_n hx hb dL_law_490 rfl (lv_at hl 0 rfl) ?_
    refine lv_iconst (v := 2) hx hb dL_law_491 (by decide) ?_
    refine lv_iadd hx hb dL_law_492 ?_
    refine lv_topi (fun y_49 ey_49 => ?_)
    obtain rfl : y_49 = 2 := ey_49.trans (by decide)
    refine va_sld hx hb hX hbl hbA hS (zf_in (by decide) (by decide)) dL_law_493 ?_
    refine lv_topi (fun y_50 ey_50 => ?_)
    obtain rfl : a_6 = y_50 := ea_6.trans ey_50.symm
    skip
    refine zw_V (As := [.int a_3, .int a_6]) (rest := [.int (-1)]) (wr := [(mki, .inl (cI, 8, .inl (fun _ => 0))), (mpa, .inl (cI, 8, .inl (fun _ => 0))), (mta, .inl (cI, 8, .inl (fun _ => 0))), (mla, .inl (cI, 40, .inl (fun _ => 0))), (msl, .inl (cI, 40, .inl (fun _ => 0))), (mco, .inl (cI, 3, .inl (zL3 5 10 50))), (mso, .inl (cI, 8, .inl (fun _ => 0))), (msi, .inl (cI, 8, .inl (fun _ => 0))), (msh, .inl (cI, 8, .inl (fun _ => 0))), (mce, .inl (cJ, 1280, .inr (.inl (fun _ => 0)))), (mca, .inl (cJ, 160, .inr (.inl (fun _ => 0)))), (mwo, .inl (cI, 64, .inl fw_)), (mnu, .inl (cI, 10, .inl fn_)), (mte, .inl (cI, 3, .inl (fun _ => 0))), (mwa, .inl (cI, 130, .inl (fun _ => 0))), (mke, .inl (cI, 130, .inl (fun _ => 0))), (mma, .inl (cI, 3, .inl (fun _ => 0))), (mth, .inl (cI, 3, .inl (fun _ => 0))), (mtr, .inl (cI, 20, .inl (fun _ => 0)))]) ⟨hx, hb, hml, hown, hts⟩ (c_M_says l D cI cJ cZ cP cS m0 mrf mki mpa mta mla msl mco mhe mso msi msh mce mca mwo mnu mte mwa mke mma mth mtr (a_3) (a_6)  H.size) (cwV 2 hts gq_48 rfl rfl rfl (by decide +kernel) ⟨Nat.le_of_ble_eq_true rfl, Nat.le_of_ble_eq_true rfl⟩) hK hN (hZ.kept hS) hP hD hS hA [0, 1, 8] [2, 3, 4, 5, 6, 7, 9, 10, 11, 12, 13, 14, 15, 16, 17, 18, 19, 20, 21] rfl rfl (by decide) (by decide) (by decide) (va_recv hK hP (ci := 8) (q0 := 0) rfl rfl) rfl hl.1 rfl (Nat.le_of_ble_eq_true rfl) dL_law_494 ⟨Nat.le_of_ble_eq_true rfl, Nat.le_of_ble_eq_true rfl⟩ (fun r_51 u_52 H locs hr_51 hP hD hS => ?_)
    replace hP : va_P D vwCl [(mki, .inl (cI, 8, .inl (fun _ => 0))), (mpa, .inl (cI, 8, .inl (fun _ => 0))), (mta, .inl (cI, 8, .inl (fun _ => 0))), (mla, .inl (cI, 40, .inl (fun _ => 0))), (msl, .inl (cI, 40, .inl (fun _ => 0))), (mco, .inl (cI, 3, .inl (zL3 5 10 50))), (mso, .inl (cI, 8, .inl (fun _ => 0))), (msi, .inl (cI, 8, .inl (fun _ => 0))), (msh, .inl (cI, 8, .inl (fun _ => 0))), (mce, .inl (cJ, 1280, .inr (.inl (fun _ => 0)))), (mca, .inl (cJ, 160, .inr (.inl (fun _ => 0)))), (mwo, .inl (cI, 64, .inl fw_)), (mnu, .inl (cI, 10, .inl fn_)), (mte, .inl (cI, 3, .inl (fun _ => 0))), (mwa, .inl (cI, 130, .inl (fun _ => 0))), (mke, .inl (cI, 130, .inl (fun _ => 0))), (mma, .inl (cI, 3, .inl (fun _ => 0))), (mth, .inl (cI, 3, .inl (fun _ => 0))), (mtr, .inl (cI, 20, .inl (fun _ => 0)))] H := hP
    replace hD : va_D _ [(mki, .inl (cI, 8, .inl (fun _ => 0))), (mpa, .inl (cI, 8, .inl (fun _ => 0))), (mta, .inl (cI, 8, .inl (fun _ => 0))), (mla, .inl (cI, 40, .inl (fun _ => 0))), (msl, .inl (cI, 40, .inl (fun _ => 0))), (mco, .inl (cI, 3, .inl (zL3 5 10 50))), (mso, .inl (cI, 8, .inl (fun _ => 0))), (msi, .inl (cI, 8, .inl (fun _ => 0))), (msh, .inl (cI, 8, .inl (fun _ => 0))), (mce, .inl (cJ, 1280, .inr (.inl (fun _ => 0)))), (mca, .inl (cJ, 160, .inr (.inl (fun _ => 0)))), (mwo, .inl (cI, 64, .inl fw_)), (mnu, .inl (cI, 10, .inl fn_)), (mte, .inl (cI, 3, .inl (fun _ => 0))), (mwa, .inl (cI, 130, .inl (fun _ => 0))), (mke, .inl (cI, 130, .inl (fun _ => 0))), (mma, .inl (cI, 3, .inl (fun _ => 0))), (mth, .inl (cI, 3, .inl (fun _ => 0))), (mtr, .inl (cI, 20, .inl (fun _ => 0)))] := hD
    rcases hr_51 with ⟨rfl, g_53⟩ | ⟨rfl, g_54, g_55⟩ | ⟨rfl, g_56, g_57, g_58⟩ | ⟨rfl, g_59, g_60, g_61, g_62⟩ | ⟨rfl, g_63, g_64, g_65, g_66⟩
    · exfalso; omega
    · refine lv_icmp_eq (tgt := 1371) hx hb dL_law_497 (by decide) (fun c_67 => ?_) (fun c_67 => ?_)
      · refine lv_iinc (v := 6) (lv' := [(3, .int 6), (2, .ref m0), (1, .ref x0), (0, .ref b)]) hx hb dL_law_1371 hl (k := 0) rfl (by decide) (by decide) rfl (fun ls hl => ?_)
        refine lv_goto (tgt := 18) hx hb dL_law_1374 (by decide) ?_
        refine lv_iload_n hx hb dL_law_18 rfl (lv_at hl 0 rfl) ?_
        refine lv_aload_n hx hb dL_law_19 rfl (lv_at hl 3 rfl) ?_
        refine va_slen hx hb hX hbl hbA hS dL_law_20 ?_
        refine lv_topi (fun y_68 ey_68 => ?_)
        obtain rfl : y_68 = 6 := ey_68.trans (by decide)
        refine lv_bipush (v := 6) hx hb dL_law_21 (by decide) ?_
        refine lv_isub hx hb dL_law_23 ?_
        refine lv_topi (fun y_69 ey_69 => ?_)
        obtain rfl : y_69 = 0 := ey_69.trans (by decide)
        refine lv_icmp_gt (tgt := 1377) hx hb dL_law_24 (by decide) (fun c_70 => ?_) (fun c_70 => ?_)
        · refine lv_iconst (v := 1) hx hb dL_law_1377 (by decide) ?_
          refine va_forget (fun q hq => hS.2.2 q hq) ?_
          refine W.widen (k := 600000) (n := 7302250) (Nat.le_of_ble_eq_true rfl) (Nat.le_of_ble_eq_true rfl) ?_
          exact lw_ret hx hb hr hlocks dL_law_1378
        · exact absurd c_70 (by decide)
      · exact absurd c_67 (by decide)
    · exfalso; omega
    · exfalso; omega
    · exfalso; omega
  · refine lv_aload_n hx hb dL_law_483 rfl (lv_at hl 1 rfl) ?_
    refine lv_aload_n hx hb dL_law_484 rfl (lv_at hl 3 rfl) ?_
    refine lv_iload_n hx hb dL_law_485 rfl (lv_at hl 0 rfl) ?_
    refine lv_iconst (v := 1) hx hb dL_law_486 (by decide) ?_
    refine lv_iadd hx hb dL_law_487 ?_
    refine lv_topi (fun y_71 ey_71 => ?_)
    obtain rfl : y_71 = 1 := ey_71.trans (by decide)
    refine va_sld hx hb hX hbl hbA hS (zf_in (by decide) (by decide)) dL_law_488 ?_
    refine lv_topi (fun y_72 ey_72 => ?_)
    obtain rfl : a_3 = y_72 := ea_3.trans ey_72.symm
    refine lv_aload_n hx hb dL_law_489 rfl (lv_at hl 3 rfl) ?_
    refine lv_iload_n hx hb dL_law_490 rfl (lv_at hl 0 rfl) ?_
    refine lv_iconst (v := 2) hx hb dL_law_491 (by decide) ?_
    refine lv_iadd hx hb dL_law_492 ?_
    refine lv_topi (fun y_73 ey_73 => ?_)
    obtain rfl : y_73 = 2 := ey_73.trans (by decide)
    refine va_sld hx hb hX hbl hbA hS (zf_in (by decide) (by decide)) dL_law_493 ?_
    refine lv_topi (fun y_74 ey_74 => ?_)
    obtain rfl : a_6 = y_74 := ea_6.trans ey_74.symm
    skip
    refine zw_V (As := [.int a_3, .int a_6]) (rest := [.int (-1)]) (wr := [(mki, .inl (cI, 8, .inl (fun _ => 0))), (mpa, .inl (cI, 8, .inl (fun _ => 0))), (mta, .inl (cI, 8, .inl (fun _ => 0))), (mla, .inl (cI, 40, .inl (fun _ => 0))), (msl, .inl (cI, 40, .inl (fun _ => 0))), (mco, .inl (cI, 3, .inl (zL3 5 10 50))), (mso, .inl (cI, 8, .inl (fun _ => 0))), (msi, .inl (cI, 8, .inl (fun _ => 0))), (msh, .inl (cI, 8, .inl (fun _ => 0))), (mce, .inl (cJ, 1280, .inr (.inl (fun _ => 0)))), (mca, .inl (cJ, 160, .inr (.inl (fun _ => 0)))), (mwo, .inl (cI, 64, .inl fw_)), (mnu, .inl (cI, 10, .inl fn_)), (mte, .inl (cI, 3, .inl (fun _ => 0))), (mwa, .inl (cI, 130, .inl (fun _ => 0))), (mke, .inl (cI, 130, .inl (fun _ => 0))), (mma, .inl (cI, 3, .inl (fun _ => 0))), (mth, .inl (cI, 3, .inl (fun _ => 0))), (mtr, .inl (cI, 20, .inl (fun _ => 0)))]) ⟨hx, hb, hml, hown, hts⟩ (c_M_says l D cI cJ cZ cP cS m0 mrf mki mpa mta mla msl mco mhe mso msi msh mce mca mwo mnu mte mwa mke mma mth mtr (a_3) (a_6)  H.size) (cwV 2 hts gq_48 rfl rfl rfl (by decide +kernel) ⟨Nat.le_of_ble_eq_true rfl, Nat.le_of_ble_eq_true rfl⟩) hK hN (hZ.kept hS) hP hD hS hA [0, 1, 8] [2, 3, 4, 5, 6, 7, 9, 10, 11, 12, 13, 14, 15, 16, 17, 18, 19, 20, 21] rfl rfl (by decide) (by decide) (by decide) (va_recv hK hP (ci := 8) (q0 := 0) rfl rfl) rfl hl.1 rfl (Nat.le_of_ble_eq_true rfl) dL_law_494 ⟨Nat.le_of_ble_eq_true rfl, Nat.le_of_ble_eq_true rfl⟩ (fun r_75 u_76 H locs hr_75 hP hD hS => ?_)
    replace hP : va_P D vwCl [(mki, .inl (cI, 8, .inl (fun _ => 0))), (mpa, .inl (cI, 8, .inl (fun _ => 0))), (mta, .inl (cI, 8, .inl (fun _ => 0))), (mla, .inl (cI, 40, .inl (fun _ => 0))), (msl, .inl (cI, 40, .inl (fun _ => 0))), (mco, .inl (cI, 3, .inl (zL3 5 10 50))), (mso, .inl (cI, 8, .inl (fun _ => 0))), (msi, .inl (cI, 8, .inl (fun _ => 0))), (msh, .inl (cI, 8, .inl (fun _ => 0))), (mce, .inl (cJ, 1280, .inr (.inl (fun _ => 0)))), (mca, .inl (cJ, 160, .inr (.inl (fun _ => 0)))), (mwo, .inl (cI, 64, .inl fw_)), (mnu, .inl (cI, 10, .inl fn_)), (mte, .inl (cI, 3, .inl (fun _ => 0))), (mwa, .inl (cI, 130, .inl (fun _ => 0))), (mke, .inl (cI, 130, .inl (fun _ => 0))), (mma, .inl (cI, 3, .inl (fun _ => 0))), (mth, .inl (cI, 3, .inl (fun _ => 0))), (mtr, .inl (cI, 20, .inl (fun _ => 0)))] H := hP
    replace hD : va_D _ [(mki, .inl (cI, 8, .inl (fun _ => 0))), (mpa, .inl (cI, 8, .inl (fun _ => 0))), (mta, .inl (cI, 8, .inl (fun _ => 0))), (mla, .inl (cI, 40, .inl (fun _ => 0))), (msl, .inl (cI, 40, .inl (fun _ => 0))), (mco, .inl (cI, 3, .inl (zL3 5 10 50))), (mso, .inl (cI, 8, .inl (fun _ => 0))), (msi, .inl (cI, 8, .inl (fun _ => 0))), (msh, .inl (cI, 8, .inl (fun _ => 0))), (mce, .inl (cJ, 1280, .inr (.inl (fun _ => 0)))), (mca, .inl (cJ, 160, .inr (.inl (fun _ => 0)))), (mwo, .inl (cI, 64, .inl fw_)), (mnu, .inl (cI, 10, .inl fn_)), (mte, .inl (cI, 3, .inl (fun _ => 0))), (mwa, .inl (cI, 130, .inl (fun _ => 0))), (mke, .inl (cI, 130, .inl (fun _ => 0))), (mma, .inl (cI, 3, .inl (fun _ => 0))), (mth, .inl (cI, 3, .inl (fun _ => 0))), (mtr, .inl (cI, 20, .inl (fun _ => 0)))] := hD
    rcases hr_75 with ⟨rfl, g_77⟩ | ⟨rfl, g_78, g_79⟩ | ⟨rfl, g_80, g_81, g_82⟩ | ⟨rfl, g_83, g_84, g_85, g_86⟩ | ⟨rfl, g_87, g_88, g_89, g_90⟩
    · exfalso; omega
    · exfalso; omega
    · refine lv_icmp_eq (tgt := 1371) hx hb dL_law_497 (by decide) (fun c_91 => ?_) (fun c_91 => ?_)
      · refine lv_iinc (v := 6) (lv' := [(3, .int 6), (2, .ref m0), (1, .ref x0), (0, .ref b)]) hx hb dL_law_1371 hl (k := 0) rfl (by decide) (by decide) rfl (fun ls hl => ?_)
        refine lv_goto (tgt := 18) hx hb dL_law_1374 (by decide) ?_
        refine lv_iload_n hx hb dL_law_18 rfl (lv_at hl 0 rfl) ?_
        refine lv_aload_n hx hb dL_law_19 rfl (lv_at hl 3 rfl) ?_
        refine va_slen hx hb hX hbl hbA hS dL_law_20 ?_
        refine lv_topi (fun y_92 ey_92 => ?_)
        obtain rfl : y_92 = 6 := ey_92.trans (by decide)
        refine lv_bipush (v := 6) hx hb dL_law_21 (by decide) ?_
        refine lv_isub hx hb dL_law_23 ?_
        refine lv_topi (fun y_93 ey_93 => ?_)
        obtain rfl : y_93 = 0 := ey_93.trans (by decide)
        refine lv_icmp_gt (tgt := 1377) hx hb dL_law_24 (by decide) (fun c_94 => ?_) (fun c_94 => ?_)
        · refine lv_iconst (v := 1) hx hb dL_law_1377 (by decide) ?_
          refine va_forget (fun q hq => hS.2.2 q hq) ?_
          refine W.widen (k := 600000) (n := 7302250) (Nat.le_of_ble_eq_true rfl) (Nat.le_of_ble_eq_true rfl) ?_
          exact lw_ret hx hb hr hlocks dL_law_1378
        · exact absurd c_94 (by decide)
      · exact absurd c_91 (by decide)
    · exfalso; omega
    · exfalso; omega
  · refine lv_aload_n hx hb dL_law_483 rfl (lv_at hl 1 rfl) ?_
    refine lv_aload_n hx hb dL_law_484 rfl (lv_at hl 3 rfl) ?_
    refine lv_iload_n hx hb dL_law_485 rfl (lv_at hl 0 rfl) ?_
    refine lv_iconst (v := 1) hx hb dL_law_486 (by decide) ?_
    refine lv_iadd hx hb dL_law_487 ?_
    refine lv_topi (fun y_95 ey_95 => ?_)
    obtain rfl : y_95 = 1 := ey_95.trans (by decide)
    refine va_sld hx hb hX hbl hbA hS (zf_in (by decide) (by decide)) dL_law_488 ?_
    refine lv_topi (fun y_96 ey_96 => ?_)
    obtain rfl : a_3 = y_96 := ea_3.trans ey_96.symm
    refine lv_aload_n hx hb dL_law_489 rfl (lv_at hl 3 rfl) ?_
    refine lv_iload_n hx hb dL_law_490 rfl (lv_at hl 0 rfl) ?_
    refine lv_iconst (v := 2) hx hb dL_law_491 (by decide) ?_
    refine lv_iadd hx hb dL_law_492 ?_
    refine lv_topi (fun y_97 ey_97 => ?_)
    obtain rfl : y_97 = 2 := ey_97.trans (by decide)
    refine va_sld hx hb hX hbl hbA hS (zf_in (by decide) (by decide)) dL_law_493 ?_
    refine lv_topi (fun y_98 ey_98 => ?_)
    obtain rfl : a_6 = y_98 := ea_6.trans ey_98.symm
    skip
    refine zw_V (As := [.int a_3, .int a_6]) (rest := [.int (-1)]) (wr := [(mki, .inl (cI, 8, .inl (fun _ => 0))), (mpa, .inl (cI, 8, .inl (fun _ => 0))), (mta, .inl (cI, 8, .inl (fun _ => 0))), (mla, .inl (cI, 40, .inl (fun _ => 0))), (msl, .inl (cI, 40, .inl (fun _ => 0))), (mco, .inl (cI, 3, .inl (zL3 5 10 50))), (mso, .inl (cI, 8, .inl (fun _ => 0))), (msi, .inl (cI, 8, .inl (fun _ => 0))), (msh, .inl (cI, 8, .inl (fun _ => 0))), (mce, .inl (cJ, 1280, .inr (.inl (fun _ => 0)))), (mca, .inl (cJ, 160, .inr (.inl (fun _ => 0)))), (mwo, .inl (cI, 64, .inl fw_)), (mnu, .inl (cI, 10, .inl fn_)), (mte, .inl (cI, 3, .inl (fun _ => 0))), (mwa, .inl (cI, 130, .inl (fun _ => 0))), (mke, .inl (cI, 130, .inl (fun _ => 0))), (mma, .inl (cI, 3, .inl (fun _ => 0))), (mth, .inl (cI, 3, .inl (fun _ => 0))), (mtr, .inl (cI, 20, .inl (fun _ => 0)))]) ⟨hx, hb, hml, hown, hts⟩ (c_M_says l D cI cJ cZ cP cS m0 mrf mki mpa mta mla msl mco mhe mso msi msh mce mca mwo mnu mte mwa mke mma mth mtr (a_3) (a_6)  H.size) (cwV 2 hts gq_48 rfl rfl rfl (by decide +kernel) ⟨Nat.le_of_ble_eq_true rfl, Nat.le_of_ble_eq_true rfl⟩) hK hN (hZ.kept hS) hP hD hS hA [0, 1, 8] [2, 3, 4, 5, 6, 7, 9, 10, 11, 12, 13, 14, 15, 16, 17, 18, 19, 20, 21] rfl rfl (by decide) (by decide) (by decide) (va_recv hK hP (ci := 8) (q0 := 0) rfl rfl) rfl hl.1 rfl (Nat.le_of_ble_eq_true rfl) dL_law_494 ⟨Nat.le_of_ble_eq_true rfl, Nat.le_of_ble_eq_true rfl⟩ (fun r_99 u_100 H locs hr_99 hP hD hS => ?_)
    replace hP : va_P D vwCl [(mki, .inl (cI, 8, .inl (fun _ => 0))), (mpa, .inl (cI, 8, .inl (fun _ => 0))), (mta, .inl (cI, 8, .inl (fun _ => 0))), (mla, .inl (cI, 40, .inl (fun _ => 0))), (msl, .inl (cI, 40, .inl (fun _ => 0))), (mco, .inl (cI, 3, .inl (zL3 5 10 50))), (mso, .inl (cI, 8, .inl (fun _ => 0))), (msi, .inl (cI, 8, .inl (fun _ => 0))), (msh, .inl (cI, 8, .inl (fun _ => 0))), (mce, .inl (cJ, 1280, .inr (.inl (fun _ => 0)))), (mca, .inl (cJ, 160, .inr (.inl (fun _ => 0)))), (mwo, .inl (cI, 64, .inl fw_)), (mnu, .inl (cI, 10, .inl fn_)), (mte, .inl (cI, 3, .inl (fun _ => 0))), (mwa, .inl (cI, 130, .inl (fun _ => 0))), (mke, .inl (cI, 130, .inl (fun _ => 0))), (mma, .inl (cI, 3, .inl (fun _ => 0))), (mth, .inl (cI, 3, .inl (fun _ => 0))), (mtr, .inl (cI, 20, .inl (fun _ => 0)))] H := hP
    replace hD : va_D _ [(mki, .inl (cI, 8, .inl (fun _ => 0))), (mpa, .inl (cI, 8, .inl (fun _ => 0))), (mta, .inl (cI, 8, .inl (fun _ => 0))), (mla, .inl (cI, 40, .inl (fun _ => 0))), (msl, .inl (cI, 40, .inl (fun _ => 0))), (mco, .inl (cI, 3, .inl (zL3 5 10 50))), (mso, .inl (cI, 8, .inl (fun _ => 0))), (msi, .inl (cI, 8, .inl (fun _ => 0))), (msh, .inl (cI, 8, .inl (fun _ => 0))), (mce, .inl (cJ, 1280, .inr (.inl (fun _ => 0)))), (mca, .inl (cJ, 160, .inr (.inl (fun _ => 0)))), (mwo, .inl (cI, 64, .inl fw_)), (mnu, .inl (cI, 10, .inl fn_)), (mte, .inl (cI, 3, .inl (fun _ => 0))), (mwa, .inl (cI, 130, .inl (fun _ => 0))), (mke, .inl (cI, 130, .inl (fun _ => 0))), (mma, .inl (cI, 3, .inl (fun _ => 0))), (mth, .inl (cI, 3, .inl (fun _ => 0))), (mtr, .inl (cI, 20, .inl (fun _ => 0)))] := hD
    rcases hr_99 with ⟨rfl, g_101⟩ | ⟨rfl, g_102, g_103⟩ | ⟨rfl, g_104, g_105, g_106⟩ | ⟨rfl, g_107, g_108, g_109, g_110⟩ | ⟨rfl, g_111, g_112, g_113, g_114⟩
    · exfalso; omega
    · exfalso; omega
    · exfalso; omega
    · exfalso; omega
    · refine lv_icmp_eq (tgt := 1371) hx hb dL_law_497 (by decide) (fun c_115 => ?_) (fun c_115 => ?_)
      · refine lv_iinc (v := 6) (lv' := [(3, .int 6), (2, .ref m0), (1, .ref x0), (0, .ref b)]) hx hb dL_law_1371 hl (k := 0) rfl (by decide) (by decide) rfl (fun ls hl => ?_)
        refine lv_goto (tgt := 18) hx hb dL_law_1374 (by decide) ?_
        refine lv_iload_n hx hb dL_law_18 rfl (lv_at hl 0 rfl) ?_
        refine lv_aload_n hx hb dL_law_19 rfl (lv_at hl 3 rfl) ?_
        refine va_slen hx hb hX hbl hbA hS dL_law_20 ?_
        refine lv_topi (fun y_116 ey_116 => ?_)
        obtain rfl : y_116 = 6 := ey_116.trans (by decide)
        refine lv_bipush (v := 6) hx hb dL_law_21 (by decide) ?_
        refine lv_isub hx hb dL_law_23 ?_
        refine lv_topi (fun y_117 ey_117 => ?_)
        obtain rfl : y_117 = 0 := ey_117.trans (by decide)
        refine lv_icmp_gt (tgt := 1377) hx hb dL_law_24 (by decide) (fun c_118 => ?_) (fun c_118 => ?_)
        · refine lv_iconst (v := 1) hx hb dL_law_1377 (by decide) ?_
          refine va_forget (fun q hq => hS.2.2 q hq) ?_
          refine W.widen (k := 600000) (n := 7302250) (Nat.le_of_ble_eq_true rfl) (Nat.le_of_ble_eq_true rfl) ?_
          exact lw_ret hx hb hr hlocks dL_law_1378
        · exact absurd c_118 (by decide)
      · exact absurd c_115 (by decide)
  · refine lv_aload_n hx hb dL_law_483 rfl (lv_at hl 1 rfl) ?_
    refine lv_aload_n hx hb dL_law_484 rfl (lv_at hl 3 rfl) ?_
    refine lv_iload_n hx hb dL_law_485 rfl (lv_at hl 0 rfl) ?_
    refine lv_iconst (v := 1) hx hb dL_law_486 (by decide) ?_
    refine lv_iadd hx hb dL_law_487 ?_
    refine lv_topi (fun y_119 ey_119 => ?_)
    obtain rfl : y_119 = 1 := ey_119.trans (by decide)
    refine va_sld hx hb hX hbl hbA hS (zf_in (by decide) (by decide)) dL_law_488 ?_
    refine lv_topi (fun y_120 ey_120 => ?_)
    obtain rfl : a_3 = y_120 := ea_3.trans ey_120.symm
    refine lv_aload_n hx hb dL_law_489 rfl (lv_at hl 3 rfl) ?_
    refine lv_iload_n hx hb dL_law_490 rfl (lv_at hl 0 rfl) ?_
    refine lv_iconst (v := 2) hx hb dL_law_491 (by decide) ?_
    refine lv_iadd hx hb dL_law_492 ?_
    refine lv_topi (fun y_121 ey_121 => ?_)
    obtain rfl : y_121 = 2 := ey_121.trans (by decide)
    refine va_sld hx hb hX hbl hbA hS (zf_in (by decide) (by decide)) dL_law_493 ?_
    refine lv_topi (fun y_122 ey_122 => ?_)
    obtain rfl : a_6 = y_122 := ea_6.trans ey_122.symm
    skip
    refine zw_V (As := [.int a_3, .int a_6]) (rest := [.int (-3)]) (wr := [(mki, .inl (cI, 8, .inl (fun _ => 0))), (mpa, .inl (cI, 8, .inl (fun _ => 0))), (mta, .inl (cI, 8, .inl (fun _ => 0))), (mla, .inl (cI, 40, .inl (fun _ => 0))), (msl, .inl (cI, 40, .inl (fun _ => 0))), (mco, .inl (cI, 3, .inl (zL3 5 10 50))), (mso, .inl (cI, 8, .inl (fun _ => 0))), (msi, .inl (cI, 8, .inl (fun _ => 0))), (msh, .inl (cI, 8, .inl (fun _ => 0))), (mce, .inl (cJ, 1280, .inr (.inl (fun _ => 0)))), (mca, .inl (cJ, 160, .inr (.inl (fun _ => 0)))), (mwo, .inl (cI, 64, .inl fw_)), (mnu, .inl (cI, 10, .inl fn_)), (mte, .inl (cI, 3, .inl (fun _ => 0))), (mwa, .inl (cI, 130, .inl (fun _ => 0))), (mke, .inl (cI, 130, .inl (fun _ => 0))), (mma, .inl (cI, 3, .inl (fun _ => 0))), (mth, .inl (cI, 3, .inl (fun _ => 0))), (mtr, .inl (cI, 20, .inl (fun _ => 0)))]) ⟨hx, hb, hml, hown, hts⟩ (c_M_says l D cI cJ cZ cP cS m0 mrf mki mpa mta mla msl mco mhe mso msi msh mce mca mwo mnu mte mwa mke mma mth mtr (a_3) (a_6)  H.size) (cwV 2 hts gq_48 rfl rfl rfl (by decide +kernel) ⟨Nat.le_of_ble_eq_true rfl, Nat.le_of_ble_eq_true rfl⟩) hK hN (hZ.kept hS) hP hD hS hA [0, 1, 8] [2, 3, 4, 5, 6, 7, 9, 10, 11, 12, 13, 14, 15, 16, 17, 18, 19, 20, 21] rfl rfl (by decide) (by decide) (by decide) (va_recv hK hP (ci := 8) (q0 := 0) rfl rfl) rfl hl.1 rfl (Nat.le_of_ble_eq_true rfl) dL_law_494 ⟨Nat.le_of_ble_eq_true rfl, Nat.le_of_ble_eq_true rfl⟩ (fun r_123 u_124 H locs hr_123 hP hD hS => ?_)
    replace hP : va_P D vwCl [(mki, .inl (cI, 8, .inl (fun _ => 0))), (mpa, .inl (cI, 8, .inl (fun _ => 0))), (mta, .inl (cI, 8, .inl (fun _ => 0))), (mla, .inl (cI, 40, .inl (fun _ => 0))), (msl, .inl (cI, 40, .inl (fun _ => 0))), (mco, .inl (cI, 3, .inl (zL3 5 10 50))), (mso, .inl (cI, 8, .inl (fun _ => 0))), (msi, .inl (cI, 8, .inl (fun _ => 0))), (msh, .inl (cI, 8, .inl (fun _ => 0))), (mce, .inl (cJ, 1280, .inr (.inl (fun _ => 0)))), (mca, .inl (cJ, 160, .inr (.inl (fun _ => 0)))), (mwo, .inl (cI, 64, .inl fw_)), (mnu, .inl (cI, 10, .inl fn_)), (mte, .inl (cI, 3, .inl (fun _ => 0))), (mwa, .inl (cI, 130, .inl (fun _ => 0))), (mke, .inl (cI, 130, .inl (fun _ => 0))), (mma, .inl (cI, 3, .inl (fun _ => 0))), (mth, .inl (cI, 3, .inl (fun _ => 0))), (mtr, .inl (cI, 20, .inl (fun _ => 0)))] H := hP
    replace hD : va_D _ [(mki, .inl (cI, 8, .inl (fun _ => 0))), (mpa, .inl (cI, 8, .inl (fun _ => 0))), (mta, .inl (cI, 8, .inl (fun _ => 0))), (mla, .inl (cI, 40, .inl (fun _ => 0))), (msl, .inl (cI, 40, .inl (fun _ => 0))), (mco, .inl (cI, 3, .inl (zL3 5 10 50))), (mso, .inl (cI, 8, .inl (fun _ => 0))), (msi, .inl (cI, 8, .inl (fun _ => 0))), (msh, .inl (cI, 8, .inl (fun _ => 0))), (mce, .inl (cJ, 1280, .inr (.inl (fun _ => 0)))), (mca, .inl (cJ, 160, .inr (.inl (fun _ => 0)))), (mwo, .inl (cI, 64, .inl fw_)), (mnu, .inl (cI, 10, .inl fn_)), (mte, .inl (cI, 3, .inl (fun _ => 0))), (mwa, .inl (cI, 130, .inl (fun _ => 0))), (mke, .inl (cI, 130, .inl (fun _ => 0))), (mma, .inl (cI, 3, .inl (fun _ => 0))), (mth, .inl (cI, 3, .inl (fun _ => 0))), (mtr, .inl (cI, 20, .inl (fun _ => 0)))] := hD
    rcases hr_123 with ⟨rfl, g_125⟩ | ⟨rfl, g_126, g_127⟩ | ⟨rfl, g_128, g_129, g_130⟩ | ⟨rfl, g_131, g_132, g_133, g_134⟩ | ⟨rfl, g_135, g_136, g_137, g_138⟩
    · exfalso; omega
    · exfalso; omega
    · exfalso; omega
    · refine lv_icmp_eq (tgt := 1371) hx hb dL_law_497 (by decide) (fun c_139 => ?_) (fun c_139 => ?_)
      · refine lv_iinc (v := 6) (lv' := [(3, .int 6), (2, .ref m0), (1, .ref x0), (0, .ref b)]) hx hb dL_law_1371 hl (k := 0) rfl (by decide) (by decide) rfl (fun ls hl => ?_)
        refine lv_goto (tgt := 18) hx hb dL_law_1374 (by decide) ?_
        refine lv_iload_n hx hb dL_law_18 rfl (lv_at hl 0 rfl) ?_
        refine lv_aload_n hx hb dL_law_19 rfl (lv_at hl 3 rfl) ?_
        refine va_slen hx hb hX hbl hbA hS dL_law_20 ?_
        refine lv_topi (fun y_140 ey_140 => ?_)
        obtain rfl : y_140 = 6 := ey_140.trans (by decide)
        refine lv_bipush (v := 6) hx hb dL_law_21 (by decide) ?_
        refine lv_isub hx hb dL_law_23 ?_
        refine lv_topi (fun y_141 ey_141 => ?_)
        obtain rfl : y_141 = 0 := ey_141.trans (by decide)
        refine lv_icmp_gt (tgt := 1377) hx hb dL_law_24 (by decide) (fun c_142 => ?_) (fun c_142 => ?_)
        · refine lv_iconst (v := 1) hx hb dL_law_1377 (by decide) ?_
          refine va_forget (fun q hq => hS.2.2 q hq) ?_
          refine W.widen (k := 600000) (n := 7302250) (Nat.le_of_ble_eq_true rfl) (Nat.le_of_ble_eq_true rfl) ?_
          exact lw_ret hx hb hr hlocks dL_law_1378
        · exact absurd c_142 (by decide)
      · exact absurd c_139 (by decide)
    · exfalso; omega
set_option maxHeartbeats 8000000 in
set_option maxRecDepth 100000 in
theorem law_case_7 {p : Program} {l : Launch} {e : Env} {s : State} {m : MethodId} {below : List Frame} {meth : Method} {c : Code} {D : va_G} {cI cJ cZ cP cS : ClassId} {b : Nat} {xs_ : Nat → Int32} (x0 xs j0 k0 w0 rd mv xr z0 jp jc zl zs kz kp kc kzl kzs wk wl wc wp ri rl mb m0 mrf mki mpa mta mla msl mco mhe mso msi msh mce mca mwo mnu mte mwa mke mma mth mtr : Nat) (sh el : Nat → Nat) (fw_ fn_ : Nat → Int32) (C0 : lw_At p s m meth c b 6 xs_) (hK : va_K D vwCl (zKT cI cJ cZ cP cS) s) (hN : zN s) (hZ : zSt (fun q : Nat => s.heap.size ≤ q) s s.heap) (H : Heap) (locs : List Loc) (hP : va_P D vwCl (zLW cI cJ cZ cP cS x0 xs j0 k0 w0 rd mv xr z0 jp jc zl zs kz kp kc kzl kzs wk wl wc wp ri rl mb m0 mrf mki mpa mta mla msl mco mhe mso msi msh mce mca mwo mnu mte mwa mke mma mth mtr sh el fw_ fn_) H) (hD : va_D (fun q : Nat => s.heap.size ≤ q) (zLW cI cJ cZ cP cS x0 xs j0 k0 w0 rd mv xr z0 jp jc zl zs kz kp kc kzl kzs wk wl wc wp ri rl mb m0 mrf mki mpa mta mla msl mco mhe mso msi msh mce mca mwo mnu mte mwa mke mma mth mtr sh el fw_ fn_)) (hS : va_S (fun q : Nat => s.heap.size ≤ q) s.heap H locs) (ls : Array Slot) (hl : lv_has ls 4 [(3, .int 0), (2, .ref m0), (1, .ref x0), (0, .ref b)]) : W p l e room_1 s m #[Value.ref b] below meth c H locs 100 10000 (lw_Z below #[Value.ref b] s) (F0 m 502 ls []) := by
  obtain ⟨hx, hb, hr, hml, hown0, hts, hX, hbl, hlocks, hgv⟩ := id C0
  have hown : s.vm.findClass RL = some m.cls := hown0
  have hA : ∀ q : Nat, s.heap.size ≤ q → (fun q : Nat => s.heap.size ≤ q) q := fun _ h => h
  have hbA : ¬ (fun q : Nat => s.heap.size ≤ q) b := Nat.not_le.mpr hbl
  replace hP : va_P D vwCl ((x0, .inr (7, [.ref xs, .ref j0, .ref k0, .ref w0, .ref rd, .ref mv, .ref xr, .int 0, .int (-1)])) :: (xs, .inl (cS, 8, .inr (.inr (.inr (.inr (zS sh)))))) :: (j0, .inr (0, [.ref z0, .ref jp, .ref jc, .int 0, .int 0, .int 0, .int 60, .int 0, .int 1])) :: (z0, .inr (6, [.ref zl, .ref zs, .int 20, .int 0, .int 3])) :: (zl, .inl (cZ, 40, .inl (fun _ => 0))) :: (zs, .inl (cI, 40, .inl (fun _ => 0))) :: (jp, .inl (cP, 8, .inr (.inr (.inr (.inr (fun _ => none)))))) :: (jc, .inl (cI, 3, .inl (zL3 5 10 50))) :: (k0, .inr (0, [.ref kz, .ref kp, .ref kc, .int 0, .int 0, .int 0, .int 60, .int 0, .int 1])) :: (kz, .inr (6, [.ref kzl, .ref kzs, .int 20, .int 0, .int 3])) :: (kzl, .inl (cZ, 40, .inl (fun _ => 0))) :: (kzs, .inl (cI, 40, .inl (fun _ => 0))) :: (kp, .inl (cP, 8, .inr (.inr (.inr (.inr (fun _ => none)))))) :: (kc, .inl (cI, 3, .inl (zL3 5 10 50))) :: (w0, .inr (5, [.ref wk, .ref wl, .ref wc, .ref wp, .int 0, .int 0, .int 0])) :: (wk, .inl (cI, 125, .inl (fun _ => 0))) :: (wl, .inl (cI, 125, .inl (fun _ => 0))) :: (wc, .inl (cI, 3, .inl (fun _ => 0))) :: (wp, .inl (cP, 8, .inr (.inr (.inr (.inr (fun _ => none)))))) :: (rd, .inr (3, [.ref ri, .ref rl, .int 0, .int 0, .int 0, .int (-1), .int 0, .int 0])) :: (ri, .inl (cI, 132, .inl (fun _ => 0))) :: (rl, .inl (cI, 160, .inl (fun _ => 0))) :: (mv, .inr (1, [.ref mb, .int 0, .int 0, .int 0, .int 0])) :: (mb, .inl (cI, 20, .inl (fun _ => 0))) :: (xr, .inl (cI, 8, .inl (fun _ => 0))) :: ((sh 0), .inr (4, [.ref (el 0), .int (-1), .int 0])) :: ((el 0), .inl (cJ, 160, .inr (.inl (fun _ => 0)))) :: ((sh 1), .inr (4, [.ref (el 1), .int (-1), .int 0])) :: ((el 1), .inl (cJ, 160, .inr (.inl (fun _ => 0)))) :: ((sh 2), .inr (4, [.ref (el 2), .int (-1), .int 0])) :: ((el 2), .inl (cJ, 160, .inr (.inl (fun _ => 0)))) :: ((sh 3), .inr (4, [.ref (el 3), .int (-1), .int 0])) :: ((el 3), .inl (cJ, 160, .inr (.inl (fun _ => 0)))) :: ((sh 4), .inr (4, [.ref (el 4), .int (-1), .int 0])) :: ((el 4), .inl (cJ, 160, .inr (.inl (fun _ => 0)))) :: ((sh 5), .inr (4, [.ref (el 5), .int (-1), .int 0])) :: ((el 5), .inl (cJ, 160, .inr (.inl (fun _ => 0)))) :: ((sh 6), .inr (4, [.ref (el 6), .int (-1), .int 0])) :: ((el 6), .inl (cJ, 160, .inr (.inl (fun _ => 0)))) :: ((sh 7), .inr (4, [.ref (el 7), .int (-1), .int 0])) :: ((el 7), .inl (cJ, 160, .inr (.inl (fun _ => 0)))) :: (m0, .inr (8, (.int 0 :: .int 20 :: .int 0 :: .int 0 :: .int 0 :: .int 60 :: .int 0 :: .int 3 :: .int 1 :: .int (-1) :: .ref mrf :: .ref mki :: .ref mpa :: .ref mta :: .ref mla :: .ref msl :: .ref mco :: .ref mhe :: .ref mso :: .ref msi :: .ref msh :: .ref mce :: .ref mca :: .ref mwo :: .ref mnu :: .ref mte :: .int 0 :: .int 0 :: .int 0 :: .int 0 :: .int 0 :: .ref mwa :: .ref mke :: .ref mma :: .ref mth :: .ref mtr :: .int 0 :: .int 0 :: []))) :: (mrf, .inl (cI, 8, .inl (fun _ => 0))) :: (mki, .inl (cI, 8, .inl (fun _ => 0))) :: (mpa, .inl (cI, 8, .inl (fun _ => 0))) :: (mta, .inl (cI, 8, .inl (fun _ => 0))) :: (mla, .inl (cI, 40, .inl (fun _ => 0))) :: (msl, .inl (cI, 40, .inl (fun _ => 0))) :: (mco, .inl (cI, 3, .inl (zL3 5 10 50))) :: (mhe, .inl (cI, 8, .inl (fun _ => 0))) :: (mso, .inl (cI, 8, .inl (fun _ => 0))) :: (msi, .inl (cI, 8, .inl (fun _ => 0))) :: (msh, .inl (cI, 8, .inl (fun _ => 0))) :: (mce, .inl (cJ, 1280, .inr (.inl (fun _ => 0)))) :: (mca, .inl (cJ, 160, .inr (.inl (fun _ => 0)))) :: (mwo, .inl (cI, 64, .inl fw_)) :: (mnu, .inl (cI, 10, .inl fn_)) :: (mte, .inl (cI, 3, .inl (fun _ => 0))) :: (mwa, .inl (cI, 130, .inl (fun _ => 0))) :: (mke, .inl (cI, 130, .inl (fun _ => 0))) :: (mma, .inl (cI, 3, .inl (fun _ => 0))) :: (mth, .inl (cI, 3, .inl (fun _ => 0))) :: (mtr, .inl (cI, 20, .inl (fun _ => 0))) :: []) H := hP
  replace hD : va_D _ ((x0, .inr (7, [.ref xs, .ref j0, .ref k0, .ref w0, .ref rd, .ref mv, .ref xr, .int 0, .int (-1)])) :: (xs, .inl (cS, 8, .inr (.inr (.inr (.inr (zS sh)))))) :: (j0, .inr (0, [.ref z0, .ref jp, .ref jc, .int 0, .int 0, .int 0, .int 60, .int 0, .int 1])) :: (z0, .inr (6, [.ref zl, .ref zs, .int 20, .int 0, .int 3])) :: (zl, .inl (cZ, 40, .inl (fun _ => 0))) :: (zs, .inl (cI, 40, .inl (fun _ => 0))) :: (jp, .inl (cP, 8, .inr (.inr (.inr (.inr (fun _ => none)))))) :: (jc, .inl (cI, 3, .inl (zL3 5 10 50))) :: (k0, .inr (0, [.ref kz, .ref kp, .ref kc, .int 0, .int 0, .int 0, .int 60, .int 0, .int 1])) :: (kz, .inr (6, [.ref kzl, .ref kzs, .int 20, .int 0, .int 3])) :: (kzl, .inl (cZ, 40, .inl (fun _ => 0))) :: (kzs, .inl (cI, 40, .inl (fun _ => 0))) :: (kp, .inl (cP, 8, .inr (.inr (.inr (.inr (fun _ => none)))))) :: (kc, .inl (cI, 3, .inl (zL3 5 10 50))) :: (w0, .inr (5, [.ref wk, .ref wl, .ref wc, .ref wp, .int 0, .int 0, .int 0])) :: (wk, .inl (cI, 125, .inl (fun _ => 0))) :: (wl, .inl (cI, 125, .inl (fun _ => 0))) :: (wc, .inl (cI, 3, .inl (fun _ => 0))) :: (wp, .inl (cP, 8, .inr (.inr (.inr (.inr (fun _ => none)))))) :: (rd, .inr (3, [.ref ri, .ref rl, .int 0, .int 0, .int 0, .int (-1), .int 0, .int 0])) :: (ri, .inl (cI, 132, .inl (fun _ => 0))) :: (rl, .inl (cI, 160, .inl (fun _ => 0))) :: (mv, .inr (1, [.ref mb, .int 0, .int 0, .int 0, .int 0])) :: (mb, .inl (cI, 20, .inl (fun _ => 0))) :: (xr, .inl (cI, 8, .inl (fun _ => 0))) :: ((sh 0), .inr (4, [.ref (el 0), .int (-1), .int 0])) :: ((el 0), .inl (cJ, 160, .inr (.inl (fun _ => 0)))) :: ((sh 1), .inr (4, [.ref (el 1), .int (-1), .int 0])) :: ((el 1), .inl (cJ, 160, .inr (.inl (fun _ => 0)))) :: ((sh 2), .inr (4, [.ref (el 2), .int (-1), .int 0])) :: ((el 2), .inl (cJ, 160, .inr (.inl (fun _ => 0)))) :: ((sh 3), .inr (4, [.ref (el 3), .int (-1), .int 0])) :: ((el 3), .inl (cJ, 160, .inr (.inl (fun _ => 0)))) :: ((sh 4), .inr (4, [.ref (el 4), .int (-1), .int 0])) :: ((el 4), .inl (cJ, 160, .inr (.inl (fun _ => 0)))) :: ((sh 5), .inr (4, [.ref (el 5), .int (-1), .int 0])) :: ((el 5), .inl (cJ, 160, .inr (.inl (fun _ => 0)))) :: ((sh 6), .inr (4, [.ref (el 6), .int (-1), .int 0])) :: ((el 6), .inl (cJ, 160, .inr (.inl (fun _ => 0)))) :: ((sh 7), .inr (4, [.ref (el 7), .int (-1), .int 0])) :: ((el 7), .inl (cJ, 160, .inr (.inl (fun _ => 0)))) :: (m0, .inr (8, (.int 0 :: .int 20 :: .int 0 :: .int 0 :: .int 0 :: .int 60 :: .int 0 :: .int 3 :: .int 1 :: .int (-1) :: .ref mrf :: .ref mki :: .ref mpa :: .ref mta :: .ref mla :: .ref msl :: .ref mco :: .ref mhe :: .ref mso :: .ref msi :: .ref msh :: .ref mce :: .ref mca :: .ref mwo :: .ref mnu :: .ref mte :: .int 0 :: .int 0 :: .int 0 :: .int 0 :: .int 0 :: .ref mwa :: .ref mke :: .ref mma :: .ref mth :: .ref mtr :: .int 0 :: .int 0 :: []))) :: (mrf, .inl (cI, 8, .inl (fun _ => 0))) :: (mki, .inl (cI, 8, .inl (fun _ => 0))) :: (mpa, .inl (cI, 8, .inl (fun _ => 0))) :: (mta, .inl (cI, 8, .inl (fun _ => 0))) :: (mla, .inl (cI, 40, .inl (fun _ => 0))) :: (msl, .inl (cI, 40, .inl (fun _ => 0))) :: (mco, .inl (cI, 3, .inl (zL3 5 10 50))) :: (mhe, .inl (cI, 8, .inl (fun _ => 0))) :: (mso, .inl (cI, 8, .inl (fun _ => 0))) :: (msi, .inl (cI, 8, .inl (fun _ => 0))) :: (msh, .inl (cI, 8, .inl (fun _ => 0))) :: (mce, .inl (cJ, 1280, .inr (.inl (fun _ => 0)))) :: (mca, .inl (cJ, 160, .inr (.inl (fun _ => 0)))) :: (mwo, .inl (cI, 64, .inl fw_)) :: (mnu, .inl (cI, 10, .inl fn_)) :: (mte, .inl (cI, 3, .inl (fun _ => 0))) :: (mwa, .inl (cI, 130, .inl (fun _ => 0))) :: (mke, .inl (cI, 130, .inl (fun _ => 0))) :: (mma, .inl (cI, 3, .inl (fun _ => 0))) :: (mth, .inl (cI, 3, .inl (fun _ => 0))) :: (mtr, .inl (cI, 20, .inl (fun _ => 0))) :: []) := hD
  refine lv_aload_n hx hb dL_law_502 rfl (lv_at hl 2 rfl) ?_
  refine lv_aload_n hx hb dL_law_503 rfl (lv_at hl 3 rfl) ?_
  refine lv_iload_n hx hb dL_law_504 rfl (lv_at hl 0 rfl) ?_
  refine lv_iconst (v := 1) hx hb dL_law_505 (by decide) ?_
  refine lv_iadd hx hb dL_law_506 ?_
  refine lv_topi (fun y_1 ey_1 => ?_)
  obtain rfl : y_1 = 1 := ey_1.trans (by decide)
  refine va_sld hx hb hX hbl hbA hS (zf_in (by decide) (by decide)) dL_law_507 ?_
  refine lv_topi (fun a_3 ea_3 => ?_)
  refine lv_aload_n hx hb dL_law_508 rfl (lv_at hl 3 rfl) ?_
  refine lv_iload_n hx hb dL_law_509 rfl (lv_at hl 0 rfl) ?_
  refine lv_iconst (v := 2) hx hb dL_law_510 (by decide) ?_
  refine lv_iadd hx hb dL_law_511 ?_
  refine lv_topi (fun y_4 ey_4 => ?_)
  obtain rfl : y_4 = 2 := ey_4.trans (by decide)
  refine va_sld hx hb hX hbl hbA hS (zf_in (by decide) (by decide)) dL_law_512 ?_
  refine lv_topi (fun a_6 ea_6 => ?_)
  refine lv_aload_n hx hb dL_law_513 rfl (lv_at hl 3 rfl) ?_
  refine lv_iload_n hx hb dL_law_514 rfl (lv_at hl 0 rfl) ?_
  refine lv_iconst (v := 3) hx hb dL_law_515 (by decide) ?_
  refine lv_iadd hx hb dL_law_516 ?_
  refine lv_topi (fun y_7 ey_7 => ?_)
  obtain rfl : y_7 = 3 := ey_7.trans (by decide)
  refine va_sld hx hb hX hbl hbA hS (zf_in (by decide) (by decide)) dL_law_517 ?_
  refine lv_topi (fun a_9 ea_9 => ?_)
  skip
  refine zw_V (As := [.int a_3, .int a_6, .int a_9]) (rest := []) (wr := ((m0, .inr (8, (.int 0 :: .int 20 :: .int 0 :: .int 0 :: .int 0 :: .int 60 :: .int 0 :: .int 3 :: .int 1 :: .int (-1) :: .ref mrf :: .ref mki :: .ref mpa :: .ref mta :: .ref mla :: .ref msl :: .ref mco :: .ref mhe :: .ref mso :: .ref msi :: .ref msh :: .ref mce :: .ref mca :: .ref mwo :: .ref mnu :: .ref mte :: .int 0 :: .int 0 :: .int 0 :: .int 0 :: .int 0 :: .ref mwa :: .ref mke :: .ref mma :: .ref mth :: .ref mtr :: .int 0 :: .int 0 :: []))) :: (mrf, .inl (cI, 8, .inl (fun _ => 0))) :: (mki, .inl (cI, 8, .inl (fun _ => 0))) :: (mpa, .inl (cI, 8, .inl (fun _ => 0))) :: (mta, .inl (cI, 8, .inl (fun _ => 0))) :: (mla, .inl (cI, 40, .inl (fun _ => 0))) :: (msl, .inl (cI, 40, .inl (fun _ => 0))) :: (mco, .inl (cI, 3, .inl (zL3 5 10 50))) :: (mhe, .inl (cI, 8, .inl (fun _ => 0))) :: (mso, .inl (cI, 8, .inl (fun _ => 0))) :: (msi, .inl (cI, 8, .inl (fun _ => 0))) :: (msh, .inl (cI, 8, .inl (fun _ => 0))) :: (mce, .inl (cJ, 1280, .inr (.inl (fun _ => 0)))) :: (mca, .inl (cJ, 160, .inr (.inl (fun _ => 0)))) :: (mwo, .inl (cI, 64, .inl fw_)) :: (mnu, .inl (cI, 10, .inl fn_)) :: (mte, .inl (cI, 3, .inl (fun _ => 0))) :: (mwa, .inl (cI, 130, .inl (fun _ => 0))) :: (mke, .inl (cI, 130, .inl (fun _ => 0))) :: (mma, .inl (cI, 3, .inl (fun _ => 0))) :: (mth, .inl (cI, 3, .inl (fun _ => 0))) :: (mtr, .inl (cI, 20, .inl (fun _ => 0))) :: [])) ⟨hx, hb, hml, hown, hts⟩ (c_pull l D cI cJ cZ cP cS x0 xs j0 k0 w0 rd mv xr jp jc z0 0 0 (a_3) (a_6) (a_9)  H.size) (cwV 3 hts gq_49 rfl rfl rfl (by decide +kernel) ⟨Nat.le_of_ble_eq_true rfl, Nat.le_of_ble_eq_true rfl⟩) hK hN (hZ.kept hS) hP hD hS hA [0, 24, 2, 6] [41, 42, 43, 44, 45, 46, 47, 48, 49, 50, 51, 52, 53, 54, 55, 56, 57, 58, 59, 60, 61, 62] rfl rfl (by decide) (by decide) (by decide) (va_recv hK hP (ci := 7) (q0 := 0) rfl rfl) rfl hl.1 rfl (Nat.le_of_ble_eq_true rfl) dL_law_518 ⟨Nat.le_of_ble_eq_true rfl, Nat.le_of_ble_eq_true rfl⟩ (fun r_10 u_11 H locs hr_10 hP hD hS => ?_)
  replace hP : va_P D vwCl ((m0, .inr (8, (.int 0 :: .int 20 :: .int 0 :: .int 0 :: .int 0 :: .int 60 :: .int 0 :: .int 3 :: .int 1 :: .int (-1) :: .ref mrf :: .ref mki :: .ref mpa :: .ref mta :: .ref mla :: .ref msl :: .ref mco :: .ref mhe :: .ref mso :: .ref msi :: .ref msh :: .ref mce :: .ref mca :: .ref mwo :: .ref mnu :: .ref mte :: .int 0 :: .int 0 :: .int 0 :: .int 0 :: .int 0 :: .ref mwa :: .ref mke :: .ref mma :: .ref mth :: .ref mtr :: .int 0 :: .int 0 :: []))) :: (mrf, .inl (cI, 8, .inl (fun _ => 0))) :: (mki, .inl (cI, 8, .inl (fun _ => 0))) :: (mpa, .inl (cI, 8, .inl (fun _ => 0))) :: (mta, .inl (cI, 8, .inl (fun _ => 0))) :: (mla, .inl (cI, 40, .inl (fun _ => 0))) :: (msl, .inl (cI, 40, .inl (fun _ => 0))) :: (mco, .inl (cI, 3, .inl (zL3 5 10 50))) :: (mhe, .inl (cI, 8, .inl (fun _ => 0))) :: (mso, .inl (cI, 8, .inl (fun _ => 0))) :: (msi, .inl (cI, 8, .inl (fun _ => 0))) :: (msh, .inl (cI, 8, .inl (fun _ => 0))) :: (mce, .inl (cJ, 1280, .inr (.inl (fun _ => 0)))) :: (mca, .inl (cJ, 160, .inr (.inl (fun _ => 0)))) :: (mwo, .inl (cI, 64, .inl fw_)) :: (mnu, .inl (cI, 10, .inl fn_)) :: (mte, .inl (cI, 3, .inl (fun _ => 0))) :: (mwa, .inl (cI, 130, .inl (fun _ => 0))) :: (mke, .inl (cI, 130, .inl (fun _ => 0))) :: (mma, .inl (cI, 3, .inl (fun _ => 0))) :: (mth, .inl (cI, 3, .inl (fun _ => 0))) :: (mtr, .inl (cI, 20, .inl (fun _ => 0))) :: []) H := hP
  replace hD : va_D _ ((m0, .inr (8, (.int 0 :: .int 20 :: .int 0 :: .int 0 :: .int 0 :: .int 60 :: .int 0 :: .int 3 :: .int 1 :: .int (-1) :: .ref mrf :: .ref mki :: .ref mpa :: .ref mta :: .ref mla :: .ref msl :: .ref mco :: .ref mhe :: .ref mso :: .ref msi :: .ref msh :: .ref mce :: .ref mca :: .ref mwo :: .ref mnu :: .ref mte :: .int 0 :: .int 0 :: .int 0 :: .int 0 :: .int 0 :: .ref mwa :: .ref mke :: .ref mma :: .ref mth :: .ref mtr :: .int 0 :: .int 0 :: []))) :: (mrf, .inl (cI, 8, .inl (fun _ => 0))) :: (mki, .inl (cI, 8, .inl (fun _ => 0))) :: (mpa, .inl (cI, 8, .inl (fun _ => 0))) :: (mta, .inl (cI, 8, .inl (fun _ => 0))) :: (mla, .inl (cI, 40, .inl (fun _ => 0))) :: (msl, .inl (cI, 40, .inl (fun _ => 0))) :: (mco, .inl (cI, 3, .inl (zL3 5 10 50))) :: (mhe, .inl (cI, 8, .inl (fun _ => 0))) :: (mso, .inl (cI, 8, .inl (fun _ => 0))) :: (msi, .inl (cI, 8, .inl (fun _ => 0))) :: (msh, .inl (cI, 8, .inl (fun _ => 0))) :: (mce, .inl (cJ, 1280, .inr (.inl (fun _ => 0)))) :: (mca, .inl (cJ, 160, .inr (.inl (fun _ => 0)))) :: (mwo, .inl (cI, 64, .inl fw_)) :: (mnu, .inl (cI, 10, .inl fn_)) :: (mte, .inl (cI, 3, .inl (fun _ => 0))) :: (mwa, .inl (cI, 130, .inl (fun _ => 0))) :: (mke, .inl (cI, 130, .inl (fun _ => 0))) :: (mma, .inl (cI, 3, .inl (fun _ => 0))) :: (mth, .inl (cI, 3, .inl (fun _ => 0))) :: (mtr, .inl (cI, 20, .inl (fun _ => 0))) :: []) := hD
  refine W.widen (k := 101) (n := 10003) (Nat.le_of_ble_eq_true rfl) (Nat.le_of_ble_eq_true rfl) ?_
  rcases hr_10 with ⟨rfl, g_12⟩ | ⟨rfl, g_13, g_14⟩ | ⟨rfl, g_15, g_16, g_17⟩ | ⟨rfl, g_18, g_19, g_20, g_21⟩ | ⟨rfl, g_22, g_23, g_24, g_25, g_26⟩ | ⟨rfl, g_27, g_28, g_29, g_30, g_31, g_32⟩ | ⟨rfl, g_33, g_34, g_35, g_36, g_37, g_38⟩
  · refine lv_aload_n hx hb dL_law_521 rfl (lv_at hl 1 rfl) ?_
    refine lv_aload_n hx hb dL_law_522 rfl (lv_at hl 3 rfl) ?_
    refine lv_iload_n hx hb dL_law_523 rfl (lv_at hl 0 rfl) ?_
    refine lv_iconst (v := 1) hx hb dL_law_524 (by decide) ?_
    refine lv_iadd hx hb dL_law_525 ?_
    refine lv_topi (fun y_39 ey_39 => ?_)
    obtain rfl : y_39 = 1 := ey_39.trans (by decide)
    refine va_sld hx hb hX hbl hbA hS (zf_in (by decide) (by decide)) dL_law_526 ?_
    refine lv_topi (fun y_40 ey_40 => ?_)
    obtain rfl : a_3 = y_40 := ea_3.trans ey_40.symm
    refine lv_aload_n hx hb dL_law_527 rfl (lv_at hl 3 rfl) ?_
    refine lv_iload_n hx hb dL_law_528 rfl (lv_at hl 0 rfl) ?_
    refine lv_iconst (v := 2) hx hb dL_law_529 (by decide) ?_
    refine lv_iadd hx hb dL_law_530 ?_
    refine lv_topi (fun y_41 ey_41 => ?_)
    obtain rfl : y_41 = 2 := ey_41.trans (by decide)
    refine va_sld hx hb hX hbl hbA hS (zf_in (by decide) (by decide)) dL_law_531 ?_
    refine lv_topi (fun y_42 ey_42 => ?_)
    obtain rfl : a_6 = y_42 := ea_6.trans ey_42.symm
    refine lv_aload_n hx hb dL_law_532 rfl (lv_at hl 3 rfl) ?_
    refine lv_iload_n hx hb dL_law_533 rfl (lv_at hl 0 rfl) ?_
    refine lv_iconst (v := 3) hx hb dL_law_534 (by decide) ?_
    refine lv_iadd hx hb dL_law_535 ?_
    refine lv_topi (fun y_43 ey_43 => ?_)
    obtain rfl : y_43 = 3 := ey_43.trans (by decide)
    refine va_sld hx hb hX hbl hbA hS (zf_in (by decide) (by decide)) dL_law_536 ?_
    refine lv_topi (fun y_44 ey_44 => ?_)
    obtain rfl : a_9 = y_44 := ea_9.trans ey_44.symm
    skip
    refine zw_V (As := [.int a_3, .int a_6, .int a_9]) (rest := [.int (-1)]) (wr := [(mla, .inl (cI, 40, .inl (fun _ => 0))), (msl, .inl (cI, 40, .inl (fun _ => 0))), (mco, .inl (cI, 3, .inl (zL3 5 10 50))), (mhe, .inl (cI, 8, .inl (fun _ => 0))), (mso, .inl (cI, 8, .inl (fun _ => 0))), (msi, .inl (cI, 8, .inl (fun _ => 0))), (msh, .inl (cI, 8, .inl (fun _ => 0))), (mce, .inl (cJ, 1280, .inr (.inl (fun _ => 0)))), (mca, .inl (cJ, 160, .inr (.inl (fun _ => 0)))), (mwo, .inl (cI, 64, .inl fw_)), (mnu, .inl (cI, 10, .inl fn_)), (mte, .inl (cI, 3, .inl (fun _ => 0))), (mwa, .inl (cI, 130, .inl (fun _ => 0))), (mke, .inl (cI, 130, .inl (fun _ => 0))), (mma, .inl (cI, 3, .inl (fun _ => 0))), (mth, .inl (cI, 3, .inl (fun _ => 0))), (mtr, .inl (cI, 20, .inl (fun _ => 0)))]) ⟨hx, hb, hml, hown, hts⟩ (c_M_pull l D cI cJ cZ cP cS m0 mrf mki mpa mta mla msl mco mhe mso msi msh mce mca mwo mnu mte mwa mke mma mth mtr (a_3) (a_6) (a_9)  H.size) (cwV 3 hts gq_52 rfl rfl rfl (by decide +kernel) ⟨Nat.le_of_ble_eq_true rfl, Nat.le_of_ble_eq_true rfl⟩) hK hN (hZ.kept hS) hP hD hS hA [0, 1, 2, 3, 4] [5, 6, 7, 8, 9, 10, 11, 12, 13, 14, 15, 16, 17, 18, 19, 20, 21] rfl rfl (by decide) (by decide) (by decide) (va_recv hK hP (ci := 8) (q0 := 0) rfl rfl) rfl hl.1 rfl (Nat.le_of_ble_eq_true rfl) dL_law_537 ⟨Nat.le_of_ble_eq_true rfl, Nat.le_of_ble_eq_true rfl⟩ (fun r_45 u_46 H locs hr_45 hP hD hS => ?_)
    replace hP : va_P D vwCl [(mla, .inl (cI, 40, .inl (fun _ => 0))), (msl, .inl (cI, 40, .inl (fun _ => 0))), (mco, .inl (cI, 3, .inl (zL3 5 10 50))), (mhe, .inl (cI, 8, .inl (fun _ => 0))), (mso, .inl (cI, 8, .inl (fun _ => 0))), (msi, .inl (cI, 8, .inl (fun _ => 0))), (msh, .inl (cI, 8, .inl (fun _ => 0))), (mce, .inl (cJ, 1280, .inr (.inl (fun _ => 0)))), (mca, .inl (cJ, 160, .inr (.inl (fun _ => 0)))), (mwo, .inl (cI, 64, .inl fw_)), (mnu, .inl (cI, 10, .inl fn_)), (mte, .inl (cI, 3, .inl (fun _ => 0))), (mwa, .inl (cI, 130, .inl (fun _ => 0))), (mke, .inl (cI, 130, .inl (fun _ => 0))), (mma, .inl (cI, 3, .inl (fun _ => 0))), (mth, .inl (cI, 3, .inl (fun _ => 0))), (mtr, .inl (cI, 20, .inl (fun _ => 0)))] H := hP
    replace hD : va_D _ [(mla, .inl (cI, 40, .inl (fun _ => 0))), (msl, .inl (cI, 40, .inl (fun _ => 0))), (mco, .inl (cI, 3, .inl (zL3 5 10 50))), (mhe, .inl (cI, 8, .inl (fun _ => 0))), (mso, .inl (cI, 8, .inl (fun _ => 0))), (msi, .inl (cI, 8, .inl (fun _ => 0))), (msh, .inl (cI, 8, .inl (fun _ => 0))), (mce, .inl (cJ, 1280, .inr (.inl (fun _ => 0)))), (mca, .inl (cJ, 160, .inr (.inl (fun _ => 0)))), (mwo, .inl (cI, 64, .inl fw_)), (mnu, .inl (cI, 10, .inl fn_)), (mte, .inl (cI, 3, .inl (fun _ => 0))), (mwa, .inl (cI, 130, .inl (fun _ => 0))), (mke, .inl (cI, 130, .inl (fun _ => 0))), (mma, .inl (cI, 3, .inl (fun _ => 0))), (mth, .inl (cI, 3, .inl (fun _ => 0))), (mtr, .inl (cI, 20, .inl (fun _ => 0)))] := hD
    rcases hr_45 with ⟨rfl, g_47⟩ | ⟨rfl, g_48, g_49, g_50⟩ | ⟨rfl, g_51, g_52, g_53, g_54⟩ | ⟨rfl, g_55, g_56, g_57, g_58, g_59⟩ | ⟨rfl, g_60, g_61, g_62, g_63, g_64, g_65⟩ | ⟨rfl, g_66, g_67, g_68, g_69, g_70, g_71⟩ | ⟨rfl, g_72, g_73⟩
    · refine lv_icmp_eq (tgt := 1371) hx hb dL_law_540 (by decide) (fun c_74 => ?_) (fun c_74 => ?_)
      · refine lv_iinc (v := 6) (lv' := [(3, .int 6), (2, .ref m0), (1, .ref x0), (0, .ref b)]) hx hb dL_law_1371 hl (k := 0) rfl (by decide) (by decide) rfl (fun ls hl => ?_)
        refine lv_goto (tgt := 18) hx hb dL_law_1374 (by decide) ?_
        refine lv_iload_n hx hb dL_law_18 rfl (lv_at hl 0 rfl) ?_
        refine lv_aload_n hx hb dL_law_19 rfl (lv_at hl 3 rfl) ?_
        refine va_slen hx hb hX hbl hbA hS dL_law_20 ?_
        refine lv_topi (fun y_75 ey_75 => ?_)
        obtain rfl : y_75 = 6 := ey_75.trans (by decide)
        refine lv_bipush (v := 6) hx hb dL_law_21 (by decide) ?_
        refine lv_isub hx hb dL_law_23 ?_
        refine lv_topi (fun y_76 ey_76 => ?_)
        obtain rfl : y_76 = 0 := ey_76.trans (by decide)
        refine lv_icmp_gt (tgt := 1377) hx hb dL_law_24 (by decide) (fun c_77 => ?_) (fun c_77 => ?_)
        · refine lv_iconst (v := 1) hx hb dL_law_1377 (by decide) ?_
          refine va_forget (fun q hq => hS.2.2 q hq) ?_
          refine W.widen (k := 600000) (n := 7302250) (Nat.le_of_ble_eq_true rfl) (Nat.le_of_ble_eq_true rfl) ?_
          exact lw_ret hx hb hr hlocks dL_law_1378
        · exact absurd c_77 (by decide)
      · exact absurd c_74 (by decide)
    · exfalso; omega
    · exfalso; omega
    · exfalso; omega
    · exfalso; omega
    · exfalso; omega
    · exfalso; omega
  · refine lv_aload_n hx hb dL_law_521 rfl (lv_at hl 1 rfl) ?_
    refine lv_aload_n hx hb dL_law_522 rfl (lv_at hl 3 rfl) ?_
    refine lv_iload_n hx hb dL_law_523 rfl (lv_at hl 0 rfl) ?_
    refine lv_iconst (v := 1) hx hb dL_law_524 (by decide) ?_
    refine lv_iadd hx hb dL_law_525 ?_
    refine lv_topi (fun y_78 ey_78 => ?_)
    obtain rfl : y_78 = 1 := ey_78.trans (by decide)
    refine va_sld hx hb hX hbl hbA hS (zf_in (by decide) (by decide)) dL_law_526 ?_
    refine lv_topi (fun y_79 ey_79 => ?_)
    obtain rfl : a_3 = y_79 := ea_3.trans ey_79.symm
    refine lv_aload_n hx hb dL_law_527 rfl (lv_at hl 3 rfl) ?_
    refine lv_iload_n hx hb dL_law_528 rfl (lv_at hl 0 rfl) ?_
    refine lv_iconst (v := 2) hx hb dL_law_529 (by decide) ?_
    refine lv_iadd hx hb dL_law_530 ?_
    refine lv_topi (fun y_80 ey_80 => ?_)
    obtain rfl : y_80 = 2 := ey_80.trans (by decide)
    refine va_sld hx hb hX hbl hbA hS (zf_in (by decide) (by decide)) dL_law_531 ?_
    refine lv_topi (fun y_81 ey_81 => ?_)
    obtain rfl : a_6 = y_81 := ea_6.trans ey_81.symm
    refine lv_aload_n hx hb dL_law_532 rfl (lv_at hl 3 rfl) ?_
    refine lv_iload_n hx hb dL_law_533 rfl (lv_at hl 0 rfl) ?_
    refine lv_iconst (v := 3) hx hb dL_law_534 (by decide) ?_
    refine lv_iadd hx hb dL_law_535 ?_
    refine lv_topi (fun y_82 ey_82 => ?_)
    obtain rfl : y_82 = 3 := ey_82.trans (by decide)
    refine va_sld hx hb hX hbl hbA hS (zf_in (by decide) (by decide)) dL_law_536 ?_
    refine lv_topi (fun y_83 ey_83 => ?_)
    obtain rfl : a_9 = y_83 := ea_9.trans ey_83.symm
    skip
    refine zw_V (As := [.int a_3, .int a_6, .int a_9]) (rest := [.int (-1)]) (wr := [(mla, .inl (cI, 40, .inl (fun _ => 0))), (msl, .inl (cI, 40, .inl (fun _ => 0))), (mco, .inl (cI, 3, .inl (zL3 5 10 50))), (mhe, .inl (cI, 8, .inl (fun _ => 0))), (mso, .inl (cI, 8, .inl (fun _ => 0))), (msi, .inl (cI, 8, .inl (fun _ => 0))), (msh, .inl (cI, 8, .inl (fun _ => 0))), (mce, .inl (cJ, 1280, .inr (.inl (fun _ => 0)))), (mca, .inl (cJ, 160, .inr (.inl (fun _ => 0)))), (mwo, .inl (cI, 64, .inl fw_)), (mnu, .inl (cI, 10, .inl fn_)), (mte, .inl (cI, 3, .inl (fun _ => 0))), (mwa, .inl (cI, 130, .inl (fun _ => 0))), (mke, .inl (cI, 130, .inl (fun _ => 0))), (mma, .inl (cI, 3, .inl (fun _ => 0))), (mth, .inl (cI, 3, .inl (fun _ => 0))), (mtr, .inl (cI, 20, .inl (fun _ => 0)))]) ⟨hx, hb, hml, hown, hts⟩ (c_M_pull l D cI cJ cZ cP cS m0 mrf mki mpa mta mla msl mco mhe mso msi msh mce mca mwo mnu mte mwa mke mma mth mtr (a_3) (a_6) (a_9)  H.size) (cwV 3 hts gq_52 rfl rfl rfl (by decide +kernel) ⟨Nat.le_of_ble_eq_true rfl, Nat.le_of_ble_eq_true rfl⟩) hK hN (hZ.kept hS) hP hD hS hA [0, 1, 2, 3, 4] [5, 6, 7, 8, 9, 10, 11, 12, 13, 14, 15, 16, 17, 18, 19, 20, 21] rfl rfl (by decide) (by decide) (by decide) (va_recv hK hP (ci := 8) (q0 := 0) rfl rfl) rfl hl.1 rfl (Nat.le_of_ble_eq_true rfl) dL_law_537 ⟨Nat.le_of_ble_eq_true rfl, Nat.le_of_ble_eq_true rfl⟩ (fun r_84 u_85 H locs hr_84 hP hD hS => ?_)
    replace hP : va_P D vwCl [(mla, .inl (cI, 40, .inl (fun _ => 0))), (msl, .inl (cI, 40, .inl (fun _ => 0))), (mco, .inl (cI, 3, .inl (zL3 5 10 50))), (mhe, .inl (cI, 8, .inl (fun _ => 0))), (mso, .inl (cI, 8, .inl (fun _ => 0))), (msi, .inl (cI, 8, .inl (fun _ => 0))), (msh, .inl (cI, 8, .inl (fun _ => 0))), (mce, .inl (cJ, 1280, .inr (.inl (fun _ => 0)))), (mca, .inl (cJ, 160, .inr (.inl (fun _ => 0)))), (mwo, .inl (cI, 64, .inl fw_)), (mnu, .inl (cI, 10, .inl fn_)), (mte, .inl (cI, 3, .inl (fun _ => 0))), (mwa, .inl (cI, 130, .inl (fun _ => 0))), (mke, .inl (cI, 130, .inl (fun _ => 0))), (mma, .inl (cI, 3, .inl (fun _ => 0))), (mth, .inl (cI, 3, .inl (fun _ => 0))), (mtr, .inl (cI, 20, .inl (fun _ => 0)))] H := hP
    replace hD : va_D _ [(mla, .inl (cI, 40, .inl (fun _ => 0))), (msl, .inl (cI, 40, .inl (fun _ => 0))), (mco, .inl (cI, 3, .inl (zL3 5 10 50))), (mhe, .inl (cI, 8, .inl (fun _ => 0))), (mso, .inl (cI, 8, .inl (fun _ => 0))), (msi, .inl (cI, 8, .inl (fun _ => 0))), (msh, .inl (cI, 8, .inl (fun _ => 0))), (mce, .inl (cJ, 1280, .inr (.inl (fun _ => 0)))), (mca, .inl (cJ, 160, .inr (.inl (fun _ => 0)))), (mwo, .inl (cI, 64, .inl fw_)), (mnu, .inl (cI, 10, .inl fn_)), (mte, .inl (cI, 3, .inl (fun _ => 0))), (mwa, .inl (cI, 130, .inl (fun _ => 0))), (mke, .inl (cI, 130, .inl (fun _ => 0))), (mma, .inl (cI, 3, .inl (fun _ => 0))), (mth, .inl (cI, 3, .inl (fun _ => 0))), (mtr, .inl (cI, 20, .inl (fun _ => 0)))] := hD
    rcases hr_84 with ⟨rfl, g_86⟩ | ⟨rfl, g_87, g_88, g_89⟩ | ⟨rfl, g_90, g_91, g_92, g_93⟩ | ⟨rfl, g_94, g_95, g_96, g_97, g_98⟩ | ⟨rfl, g_99, g_100, g_101, g_102, g_103, g_104⟩ | ⟨rfl, g_105, g_106, g_107, g_108, g_109, g_110⟩ | ⟨rfl, g_111, g_112⟩
    · exfalso; omega
    · exfalso; omega
    · exfalso; omega
    · exfalso; omega
    · exfalso; omega
    · exfalso; omega
    · refine lv_icmp_eq (tgt := 1371) hx hb dL_law_540 (by decide) (fun c_113 => ?_) (fun c_113 => ?_)
      · refine lv_iinc (v := 6) (lv' := [(3, .int 6), (2, .ref m0), (1, .ref x0), (0, .ref b)]) hx hb dL_law_1371 hl (k := 0) rfl (by decide) (by decide) rfl (fun ls hl => ?_)
        refine lv_goto (tgt := 18) hx hb dL_law_1374 (by decide) ?_
        refine lv_iload_n hx hb dL_law_18 rfl (lv_at hl 0 rfl) ?_
        refine lv_aload_n hx hb dL_law_19 rfl (lv_at hl 3 rfl) ?_
        refine va_slen hx hb hX hbl hbA hS dL_law_20 ?_
        refine lv_topi (fun y_114 ey_114 => ?_)
        obtain rfl : y_114 = 6 := ey_114.trans (by decide)
        refine lv_bipush (v := 6) hx hb dL_law_21 (by decide) ?_
        refine lv_isub hx hb dL_law_23 ?_
        refine lv_topi (fun y_115 ey_115 => ?_)
        obtain rfl : y_115 = 0 := ey_115.trans (by decide)
        refine lv_icmp_gt (tgt := 1377) hx hb dL_law_24 (by decide) (fun c_116 => ?_) (fun c_116 => ?_)
        · refine lv_iconst (v := 1) hx hb dL_law_1377 (by decide) ?_
          refine va_forget (fun q hq => hS.2.2 q hq) ?_
          refine W.widen (k := 600000) (n := 7302250) (Nat.le_of_ble_eq_true rfl) (Nat.le_of_ble_eq_true rfl) ?_
          exact lw_ret hx hb hr hlocks dL_law_1378
        · exact absurd c_116 (by decide)
      · exact absurd c_113 (by decide)
  · refine lv_aload_n hx hb dL_law_521 rfl (lv_at hl 1 rfl) ?_
    refine lv_aload_n hx hb dL_law_522 rfl (lv_at hl 3 rfl) ?_
    refine lv_iload_n hx hb dL_law_523 rfl (lv_at hl 0 rfl) ?_
    refine lv_iconst (v := 1) hx hb dL_law_524 (by decide) ?_
    refine lv_iadd hx hb dL_law_525 ?_
    refine lv_topi (fun y_117 ey_117 => ?_)
    obtain rfl : y_117 = 1 := ey_117.trans (by decide)
    refine va_sld hx hb hX hbl hbA hS (zf_in (by decide) (by decide)) dL_law_526 ?_
    refine lv_topi (fun y_118 ey_118 => ?_)
    obtain rfl : a_3 = y_118 := ea_3.trans ey_118.symm
    refine lv_aload_n hx hb dL_law_527 rfl (lv_at hl 3 rfl) ?_
    refine lv_iload_n hx hb dL_law_528 rfl (lv_at hl 0 rfl) ?_
    refine lv_iconst (v := 2) hx hb dL_law_529 (by decide) ?_
    refine lv_iadd hx hb dL_law_530 ?_
    refine lv_topi (fun y_119 ey_119 => ?_)
    obtain rfl : y_119 = 2 := ey_119.trans (by decide)
    refine va_sld hx hb hX hbl hbA hS (zf_in (by decide) (by decide)) dL_law_531 ?_
    refine lv_topi (fun y_120 ey_120 => ?_)
    obtain rfl : a_6 = y_120 := ea_6.trans ey_120.symm
    refine lv_aload_n hx hb dL_law_532 rfl (lv_at hl 3 rfl) ?_
    refine lv_iload_n hx hb dL_law_533 rfl (lv_at hl 0 rfl) ?_
    refine lv_iconst (v := 3) hx hb dL_law_534 (by decide) ?_
    refine lv_iadd hx hb dL_law_535 ?_
    refine lv_topi (fun y_121 ey_121 => ?_)
    obtain rfl : y_121 = 3 := ey_121.trans (by decide)
    refine va_sld hx hb hX hbl hbA hS (zf_in (by decide) (by decide)) dL_law_536 ?_
    refine lv_topi (fun y_122 ey_122 => ?_)
    obtain rfl : a_9 = y_122 := ea_9.trans ey_122.symm
    skip
    refine zw_V (As := [.int a_3, .int a_6, .int a_9]) (rest := [.int (-6)]) (wr := [(mla, .inl (cI, 40, .inl (fun _ => 0))), (msl, .inl (cI, 40, .inl (fun _ => 0))), (mco, .inl (cI, 3, .inl (zL3 5 10 50))), (mhe, .inl (cI, 8, .inl (fun _ => 0))), (mso, .inl (cI, 8, .inl (fun _ => 0))), (msi, .inl (cI, 8, .inl (fun _ => 0))), (msh, .inl (cI, 8, .inl (fun _ => 0))), (mce, .inl (cJ, 1280, .inr (.inl (fun _ => 0)))), (mca, .inl (cJ, 160, .inr (.inl (fun _ => 0)))), (mwo, .inl (cI, 64, .inl fw_)), (mnu, .inl (cI, 10, .inl fn_)), (mte, .inl (cI, 3, .inl (fun _ => 0))), (mwa, .inl (cI, 130, .inl (fun _ => 0))), (mke, .inl (cI, 130, .inl (fun _ => 0))), (mma, .inl (cI, 3, .inl (fun _ => 0))), (mth, .inl (cI, 3, .inl (fun _ => 0))), (mtr, .inl (cI, 20, .inl (fun _ => 0)))]) ⟨hx, hb, hml, hown, hts⟩ (c_M_pull l D cI cJ cZ cP cS m0 mrf mki mpa mta mla msl mco mhe mso msi msh mce mca mwo mnu mte mwa mke mma mth mtr (a_3) (a_6) (a_9)  H.size) (cwV 3 hts gq_52 rfl rfl rfl (by decide +kernel) ⟨Nat.le_of_ble_eq_true rfl, Nat.le_of_ble_eq_true rfl⟩) hK hN (hZ.kept hS) hP hD hS hA [0, 1, 2, 3, 4] [5, 6, 7, 8, 9, 10, 11, 12, 13, 14, 15, 16, 17, 18, 19, 20, 21] rfl rfl (by decide) (by decide) (by decide) (va_recv hK hP (ci := 8) (q0 := 0) rfl rfl) rfl hl.1 rfl (Nat.le_of_ble_eq_true rfl) dL_law_537 ⟨Nat.le_of_ble_eq_true rfl, Nat.le_of_ble_eq_true rfl⟩ (fun r_123 u_124 H locs hr_123 hP hD hS => ?_)
    replace hP : va_P D vwCl [(mla, .inl (cI, 40, .inl (fun _ => 0))), (msl, .inl (cI, 40, .inl (fun _ => 0))), (mco, .inl (cI, 3, .inl (zL3 5 10 50))), (mhe, .inl (cI, 8, .inl (fun _ => 0))), (mso, .inl (cI, 8, .inl (fun _ => 0))), (msi, .inl (cI, 8, .inl (fun _ => 0))), (msh, .inl (cI, 8, .inl (fun _ => 0))), (mce, .inl (cJ, 1280, .inr (.inl (fun _ => 0)))), (mca, .inl (cJ, 160, .inr (.inl (fun _ => 0)))), (mwo, .inl (cI, 64, .inl fw_)), (mnu, .inl (cI, 10, .inl fn_)), (mte, .inl (cI, 3, .inl (fun _ => 0))), (mwa, .inl (cI, 130, .inl (fun _ => 0))), (mke, .inl (cI, 130, .inl (fun _ => 0))), (mma, .inl (cI, 3, .inl (fun _ => 0))), (mth, .inl (cI, 3, .inl (fun _ => 0))), (mtr, .inl (cI, 20, .inl (fun _ => 0)))] H := hP
    replace hD : va_D _ [(mla, .inl (cI, 40, .inl (fun _ => 0))), (msl, .inl (cI, 40, .inl (fun _ => 0))), (mco, .inl (cI, 3, .inl (zL3 5 10 50))), (mhe, .inl (cI, 8, .inl (fun _ => 0))), (mso, .inl (cI, 8, .inl (fun _ => 0))), (msi, .inl (cI, 8, .inl (fun _ => 0))), (msh, .inl (cI, 8, .inl (fun _ => 0))), (mce, .inl (cJ, 1280, .inr (.inl (fun _ => 0)))), (mca, .inl (cJ, 160, .inr (.inl (fun _ => 0)))), (mwo, .inl (cI, 64, .inl fw_)), (mnu, .inl (cI, 10, .inl fn_)), (mte, .inl (cI, 3, .inl (fun _ => 0))), (mwa, .inl (cI, 130, .inl (fun _ => 0))), (mke, .inl (cI, 130, .inl (fun _ => 0))), (mma, .inl (cI, 3, .inl (fun _ => 0))), (mth, .inl (cI, 3, .inl (fun _ => 0))), (mtr, .inl (cI, 20, .inl (fun _ => 0)))] := hD
    rcases hr_123 with ⟨rfl, g_125⟩ | ⟨rfl, g_126, g_127, g_128⟩ | ⟨rfl, g_129, g_130, g_131, g_132⟩ | ⟨rfl, g_133, g_134, g_135, g_136, g_137⟩ | ⟨rfl, g_138, g_139, g_140, g_141, g_142, g_143⟩ | ⟨rfl, g_144, g_145, g_146, g_147, g_148, g_149⟩ | ⟨rfl, g_150, g_151⟩
    · exfalso; omega
    · refine lv_icmp_eq (tgt := 1371) hx hb dL_law_540 (by decide) (fun c_152 => ?_) (fun c_152 => ?_)
      · refine lv_iinc (v := 6) (lv' := [(3, .int 6), (2, .ref m0), (1, .ref x0), (0, .ref b)]) hx hb dL_law_1371 hl (k := 0) rfl (by decide) (by decide) rfl (fun ls hl => ?_)
        refine lv_goto (tgt := 18) hx hb dL_law_1374 (by decide) ?_
        refine lv_iload_n hx hb dL_law_18 rfl (lv_at hl 0 rfl) ?_
        refine lv_aload_n hx hb dL_law_19 rfl (lv_at hl 3 rfl) ?_
        refine va_slen hx hb hX hbl hbA hS dL_law_20 ?_
        refine lv_topi (fun y_153 ey_153 => ?_)
        obtain rfl : y_153 = 6 := ey_153.trans (by decide)
        refine lv_bipush (v := 6) hx hb dL_law_21 (by decide) ?_
        refine lv_isub hx hb dL_law_23 ?_
        refine lv_topi (fun y_154 ey_154 => ?_)
        obtain rfl : y_154 = 0 := ey_154.trans (by decide)
        refine lv_icmp_gt (tgt := 1377) hx hb dL_law_24 (by decide) (fun c_155 => ?_) (fun c_155 => ?_)
        · refine lv_iconst (v := 1) hx hb dL_law_1377 (by decide) ?_
          refine va_forget (fun q hq => hS.2.2 q hq) ?_
          refine W.widen (k := 600000) (n := 7302250) (Nat.le_of_ble_eq_true rfl) (Nat.le_of_ble_eq_true rfl) ?_
          exact lw_ret hx hb hr hlocks dL_law_1378
        · exact absurd c_155 (by decide)
      · exact absurd c_152 (by decide)
    · exfalso; omega
    · exfalso; omega
    · exfalso; omega
    · exfalso; omega
    · exfalso; omega
  · refine lv_aload_n hx hb dL_law_521 rfl (lv_at hl 1 rfl) ?_
    refine lv_aload_n hx hb dL_law_522 rfl (lv_at hl 3 rfl) ?_
    refine lv_iload_n hx hb dL_law_523 rfl (lv_at hl 0 rfl) ?_
    refine lv_iconst (v := 1) hx hb dL_law_524 (by decide) ?_
    refine lv_iadd hx hb dL_law_525 ?_
    refine lv_topi (fun y_156 ey_156 => ?_)
    obtain rfl : y_156 = 1 := ey_156.trans (by decide)
    refine va_sld hx hb hX hbl hbA hS (zf_in (by decide) (by decide)) dL_law_526 ?_
    refine lv_topi (fun y_157 ey_157 => ?_)
    obtain rfl : a_3 = y_157 := ea_3.trans ey_157.symm
    refine lv_aload_n hx hb dL_law_527 rfl (lv_at hl 3 rfl) ?_
    refine lv_iload_n hx hb dL_law_528 rfl (lv_at hl 0 rfl) ?_
    refine lv_iconst (v := 2) hx hb dL_law_529 (by decide) ?_
    refine lv_iadd hx hb dL_law_530 ?_
    refine lv_topi (fun y_158 ey_158 => ?_)
    obtain rfl : y_158 = 2 := ey_158.trans (by decide)
    refine va_sld hx hb hX hbl hbA hS (zf_in (by decide) (by decide)) dL_law_531 ?_
    refine lv_topi (fun y_159 ey_159 => ?_)
    obtain rfl : a_6 = y_159 := ea_6.trans ey_159.symm
    refine lv_aload_n hx hb dL_law_532 rfl (lv_at hl 3 rfl) ?_
    refine lv_iload_n hx hb dL_law_533 rfl (lv_at hl 0 rfl) ?_
    refine lv_iconst (v := 3) hx hb dL_law_534 (by decide) ?_
    refine lv_iadd hx hb dL_law_535 ?_
    refine lv_topi (fun y_160 ey_160 => ?_)
    obtain rfl : y_160 = 3 := ey_160.trans (by decide)
    refine va_sld hx hb hX hbl hbA hS (zf_in (by decide) (by decide)) dL_law_536 ?_
    refine lv_topi (fun y_161 ey_161 => ?_)
    obtain rfl : a_9 = y_161 := ea_9.trans ey_161.symm
    skip
    refine zw_V (As := [.int a_3, .int a_6, .int a_9]) (rest := [.int (-6)]) (wr := [(mla, .inl (cI, 40, .inl (fun _ => 0))), (msl, .inl (cI, 40, .inl (fun _ => 0))), (mco, .inl (cI, 3, .inl (zL3 5 10 50))), (mhe, .inl (cI, 8, .inl (fun _ => 0))), (mso, .inl (cI, 8, .inl (fun _ => 0))), (msi, .inl (cI, 8, .inl (fun _ => 0))), (msh, .inl (cI, 8, .inl (fun _ => 0))), (mce, .inl (cJ, 1280, .inr (.inl (fun _ => 0)))), (mca, .inl (cJ, 160, .inr (.inl (fun _ => 0)))), (mwo, .inl (cI, 64, .inl fw_)), (mnu, .inl (cI, 10, .inl fn_)), (mte, .inl (cI, 3, .inl (fun _ => 0))), (mwa, .inl (cI, 130, .inl (fun _ => 0))), (mke, .inl (cI, 130, .inl (fun _ => 0))), (mma, .inl (cI, 3, .inl (fun _ => 0))), (mth, .inl (cI, 3, .inl (fun _ => 0))), (mtr, .inl (cI, 20, .inl (fun _ => 0)))]) ⟨hx, hb, hml, hown, hts⟩ (c_M_pull l D cI cJ cZ cP cS m0 mrf mki mpa mta mla msl mco mhe mso msi msh mce mca mwo mnu mte mwa mke mma mth mtr (a_3) (a_6) (a_9)  H.size) (cwV 3 hts gq_52 rfl rfl rfl (by decide +kernel) ⟨Nat.le_of_ble_eq_true rfl, Nat.le_of_ble_eq_true rfl⟩) hK hN (hZ.kept hS) hP hD hS hA [0, 1, 2, 3, 4] [5, 6, 7, 8, 9, 10, 11, 12, 13, 14, 15, 16, 17, 18, 19, 20, 21] rfl rfl (by decide) (by decide) (by decide) (va_recv hK hP (ci := 8) (q0 := 0) rfl rfl) rfl hl.1 rfl (Nat.le_of_ble_eq_true rfl) dL_law_537 ⟨Nat.le_of_ble_eq_true rfl, Nat.le_of_ble_eq_true rfl⟩ (fun r_162 u_163 H locs hr_162 hP hD hS => ?_)
    replace hP : va_P D vwCl [(mla, .inl (cI, 40, .inl (fun _ => 0))), (msl, .inl (cI, 40, .inl (fun _ => 0))), (mco, .inl (cI, 3, .inl (zL3 5 10 50))), (mhe, .inl (cI, 8, .inl (fun _ => 0))), (mso, .inl (cI, 8, .inl (fun _ => 0))), (msi, .inl (cI, 8, .inl (fun _ => 0))), (msh, .inl (cI, 8, .inl (fun _ => 0))), (mce, .inl (cJ, 1280, .inr (.inl (fun _ => 0)))), (mca, .inl (cJ, 160, .inr (.inl (fun _ => 0)))), (mwo, .inl (cI, 64, .inl fw_)), (mnu, .inl (cI, 10, .inl fn_)), (mte, .inl (cI, 3, .inl (fun _ => 0))), (mwa, .inl (cI, 130, .inl (fun _ => 0))), (mke, .inl (cI, 130, .inl (fun _ => 0))), (mma, .inl (cI, 3, .inl (fun _ => 0))), (mth, .inl (cI, 3, .inl (fun _ => 0))), (mtr, .inl (cI, 20, .inl (fun _ => 0)))] H := hP
    replace hD : va_D _ [(mla, .inl (cI, 40, .inl (fun _ => 0))), (msl, .inl (cI, 40, .inl (fun _ => 0))), (mco, .inl (cI, 3, .inl (zL3 5 10 50))), (mhe, .inl (cI, 8, .inl (fun _ => 0))), (mso, .inl (cI, 8, .inl (fun _ => 0))), (msi, .inl (cI, 8, .inl (fun _ => 0))), (msh, .inl (cI, 8, .inl (fun _ => 0))), (mce, .inl (cJ, 1280, .inr (.inl (fun _ => 0)))), (mca, .inl (cJ, 160, .inr (.inl (fun _ => 0)))), (mwo, .inl (cI, 64, .inl fw_)), (mnu, .inl (cI, 10, .inl fn_)), (mte, .inl (cI, 3, .inl (fun _ => 0))), (mwa, .inl (cI, 130, .inl (fun _ => 0))), (mke, .inl (cI, 130, .inl (fun _ => 0))), (mma, .inl (cI, 3, .inl (fun _ => 0))), (mth, .inl (cI, 3, .inl (fun _ => 0))), (mtr, .inl (cI, 20, .inl (fun _ => 0)))] := hD
    rcases hr_162 with ⟨rfl, g_164⟩ | ⟨rfl, g_165, g_166, g_167⟩ | ⟨rfl, g_168, g_169, g_170, g_171⟩ | ⟨rfl, g_172, g_173, g_174, g_175, g_176⟩ | ⟨rfl, g_177, g_178, g_179, g_180, g_181, g_182⟩ | ⟨rfl, g_183, g_184, g_185, g_186, g_187, g_188⟩ | ⟨rfl, g_189, g_190⟩
    · exfalso; omega
    · exfalso; omega
    · refine lv_icmp_eq (tgt := 1371) hx hb dL_law_540 (by decide) (fun c_191 => ?_) (fun c_191 => ?_)
      · refine lv_iinc (v := 6) (lv' := [(3, .int 6), (2, .ref m0), (1, .ref x0), (0, .ref b)]) hx hb dL_law_1371 hl (k := 0) rfl (by decide) (by decide) rfl (fun ls hl => ?_)
        refine lv_goto (tgt := 18) hx hb dL_law_1374 (by decide) ?_
        refine lv_iload_n hx hb dL_law_18 rfl (lv_at hl 0 rfl) ?_
        refine lv_aload_n hx hb dL_law_19 rfl (lv_at hl 3 rfl) ?_
        refine va_slen hx hb hX hbl hbA hS dL_law_20 ?_
        refine lv_topi (fun y_192 ey_192 => ?_)
        obtain rfl : y_192 = 6 := ey_192.trans (by decide)
        refine lv_bipush (v := 6) hx hb dL_law_21 (by decide) ?_
        refine lv_isub hx hb dL_law_23 ?_
        refine lv_topi (fun y_193 ey_193 => ?_)
        obtain rfl : y_193 = 0 := ey_193.trans (by decide)
        refine lv_icmp_gt (tgt := 1377) hx hb dL_law_24 (by decide) (fun c_194 => ?_) (fun c_194 => ?_)
        · refine lv_iconst (v := 1) hx hb dL_law_1377 (by decide) ?_
          refine va_forget (fun q hq => hS.2.2 q hq) ?_
          refine W.widen (k := 600000) (n := 7302250) (Nat.le_of_ble_eq_true rfl) (Nat.le_of_ble_eq_true rfl) ?_
          exact lw_ret hx hb hr hlocks dL_law_1378
        · exact absurd c_194 (by decide)
      · exact absurd c_191 (by decide)
    · exfalso; omega
    · exfalso; omega
    · exfalso; omega
    · exfalso; omega
  · refine lv_aload_n hx hb dL_law_521 rfl (lv_at hl 1 rfl) ?_
    refine lv_aload_n hx hb dL_law_522 rfl (lv_at hl 3 rfl) ?_
    refine lv_iload_n hx hb dL_law_523 rfl (lv_at hl 0 rfl) ?_
    refine lv_iconst (v := 1) hx hb dL_law_524 (by decide) ?_
    refine lv_iadd hx hb dL_law_525 ?_
    refine lv_topi (fun y_195 ey_195 => ?_)
    obtain rfl : y_195 = 1 := ey_195.trans (by decide)
    refine va_sld hx hb hX hbl hbA hS (zf_in (by decide) (by decide)) dL_law_526 ?_
    refine lv_topi (fun y_196 ey_196 => ?_)
    obtain rfl : a_3 = y_196 := ea_3.trans ey_196.symm
    refine lv_aload_n hx hb dL_law_527 rfl (lv_at hl 3 rfl) ?_
    refine lv_iload_n hx hb dL_law_528 rfl (lv_at hl 0 rfl) ?_
    refine lv_iconst (v := 2) hx hb dL_law_529 (by decide) ?_
    refine lv_iadd hx hb dL_law_530 ?_
    refine lv_topi (fun y_197 ey_197 => ?_)
    obtain rfl : y_197 = 2 := ey_197.trans (by decide)
    refine va_sld hx hb hX hbl hbA hS (zf_in (by decide) (by decide)) dL_law_531 ?_
    refine lv_topi (fun y_198 ey_198 => ?_)
    obtain rfl : a_6 = y_198 := ea_6.trans ey_198.symm
    refine lv_aload_n hx hb dL_law_532 rfl (lv_at hl 3 rfl) ?_
    refine lv_iload_n hx hb dL_law_533 rfl (lv_at hl 0 rfl) ?_
    refine lv_iconst (v := 3) hx hb dL_law_534 (by decide) ?_
    refine lv_iadd hx hb dL_law_535 ?_
    refine lv_topi (fun y_199 ey_199 => ?_)
    obtain rfl : y_199 = 3 := ey_199.trans (by decide)
    refine va_sld hx hb hX hbl hbA hS (zf_in (by decide) (by decide)) dL_law_536 ?_
    refine lv_topi (fun y_200 ey_200 => ?_)
    obtain rfl : a_9 = y_200 := ea_9.trans ey_200.symm
    skip
    refine zw_V (As := [.int a_3, .int a_6, .int a_9]) (rest := [.int (-6)]) (wr := [(mla, .inl (cI, 40, .inl (fun _ => 0))), (msl, .inl (cI, 40, .inl (fun _ => 0))), (mco, .inl (cI, 3, .inl (zL3 5 10 50))), (mhe, .inl (cI, 8, .inl (fun _ => 0))), (mso, .inl (cI, 8, .inl (fun _ => 0))), (msi, .inl (cI, 8, .inl (fun _ => 0))), (msh, .inl (cI, 8, .inl (fun _ => 0))), (mce, .inl (cJ, 1280, .inr (.inl (fun _ => 0)))), (mca, .inl (cJ, 160, .inr (.inl (fun _ => 0)))), (mwo, .inl (cI, 64, .inl fw_)), (mnu, .inl (cI, 10, .inl fn_)), (mte, .inl (cI, 3, .inl (fun _ => 0))), (mwa, .inl (cI, 130, .inl (fun _ => 0))), (mke, .inl (cI, 130, .inl (fun _ => 0))), (mma, .inl (cI, 3, .inl (fun _ => 0))), (mth, .inl (cI, 3, .inl (fun _ => 0))), (mtr, .inl (cI, 20, .inl (fun _ => 0)))]) ⟨hx, hb, hml, hown, hts⟩ (c_M_pull l D cI cJ cZ cP cS m0 mrf mki mpa mta mla msl mco mhe mso msi msh mce mca mwo mnu mte mwa mke mma mth mtr (a_3) (a_6) (a_9)  H.size) (cwV 3 hts gq_52 rfl rfl rfl (by decide +kernel) ⟨Nat.le_of_ble_eq_true rfl, Nat.le_of_ble_eq_true rfl⟩) hK hN (hZ.kept hS) hP hD hS hA [0, 1, 2, 3, 4] [5, 6, 7, 8, 9, 10, 11, 12, 13, 14, 15, 16, 17, 18, 19, 20, 21] rfl rfl (by decide) (by decide) (by decide) (va_recv hK hP (ci := 8) (q0 := 0) rfl rfl) rfl hl.1 rfl (Nat.le_of_ble_eq_true rfl) dL_law_537 ⟨Nat.le_of_ble_eq_true rfl, Nat.le_of_ble_eq_true rfl⟩ (fun r_201 u_202 H locs hr_201 hP hD hS => ?_)
    replace hP : va_P D vwCl [(mla, .inl (cI, 40, .inl (fun _ => 0))), (msl, .inl (cI, 40, .inl (fun _ => 0))), (mco, .inl (cI, 3, .inl (zL3 5 10 50))), (mhe, .inl (cI, 8, .inl (fun _ => 0))), (mso, .inl (cI, 8, .inl (fun _ => 0))), (msi, .inl (cI, 8, .inl (fun _ => 0))), (msh, .inl (cI, 8, .inl (fun _ => 0))), (mce, .inl (cJ, 1280, .inr (.inl (fun _ => 0)))), (mca, .inl (cJ, 160, .inr (.inl (fun _ => 0)))), (mwo, .inl (cI, 64, .inl fw_)), (mnu, .inl (cI, 10, .inl fn_)), (mte, .inl (cI, 3, .inl (fun _ => 0))), (mwa, .inl (cI, 130, .inl (fun _ => 0))), (mke, .inl (cI, 130, .inl (fun _ => 0))), (mma, .inl (cI, 3, .inl (fun _ => 0))), (mth, .inl (cI, 3, .inl (fun _ => 0))), (mtr, .inl (cI, 20, .inl (fun _ => 0)))] H := hP
    replace hD : va_D _ [(mla, .inl (cI, 40, .inl (fun _ => 0))), (msl, .inl (cI, 40, .inl (fun _ => 0))), (mco, .inl (cI, 3, .inl (zL3 5 10 50))), (mhe, .inl (cI, 8, .inl (fun _ => 0))), (mso, .inl (cI, 8, .inl (fun _ => 0))), (msi, .inl (cI, 8, .inl (fun _ => 0))), (msh, .inl (cI, 8, .inl (fun _ => 0))), (mce, .inl (cJ, 1280, .inr (.inl (fun _ => 0)))), (mca, .inl (cJ, 160, .inr (.inl (fun _ => 0)))), (mwo, .inl (cI, 64, .inl fw_)), (mnu, .inl (cI, 10, .inl fn_)), (mte, .inl (cI, 3, .inl (fun _ => 0))), (mwa, .inl (cI, 130, .inl (fun _ => 0))), (mke, .inl (cI, 130, .inl (fun _ => 0))), (mma, .inl (cI, 3, .inl (fun _ => 0))), (mth, .inl (cI, 3, .inl (fun _ => 0))), (mtr, .inl (cI, 20, .inl (fun _ => 0)))] := hD
    rcases hr_201 with ⟨rfl, g_203⟩ | ⟨rfl, g_204, g_205, g_206⟩ | ⟨rfl, g_207, g_208, g_209, g_210⟩ | ⟨rfl, g_211, g_212, g_213, g_214, g_215⟩ | ⟨rfl, g_216, g_217, g_218, g_219, g_220, g_221⟩ | ⟨rfl, g_222, g_223, g_224, g_225, g_226, g_227⟩ | ⟨rfl, g_228, g_229⟩
    · exfalso; omega
    · exfalso; omega
    · exfalso; omega
    · refine lv_icmp_eq (tgt := 1371) hx hb dL_law_540 (by decide) (fun c_230 => ?_) (fun c_230 => ?_)
      · refine lv_iinc (v := 6) (lv' := [(3, .int 6), (2, .ref m0), (1, .ref x0), (0, .ref b)]) hx hb dL_law_1371 hl (k := 0) rfl (by decide) (by decide) rfl (fun ls hl => ?_)
        refine lv_goto (tgt := 18) hx hb dL_law_1374 (by decide) ?_
        refine lv_iload_n hx hb dL_law_18 rfl (lv_at hl 0 rfl) ?_
        refine lv_aload_n hx hb dL_law_19 rfl (lv_at hl 3 rfl) ?_
        refine va_slen hx hb hX hbl hbA hS dL_law_20 ?_
        refine lv_topi (fun y_231 ey_231 => ?_)
        obtain rfl : y_231 = 6 := ey_231.trans (by decide)
        refine lv_bipush (v := 6) hx hb dL_law_21 (by decide) ?_
        refine lv_isub hx hb dL_law_23 ?_
        refine lv_topi (fun y_232 ey_232 => ?_)
        obtain rfl : y_232 = 0 := ey_232.trans (by decide)
        refine lv_icmp_gt (tgt := 1377) hx hb dL_law_24 (by decide) (fun c_233 => ?_) (fun c_233 => ?_)
        · refine lv_iconst (v := 1) hx hb dL_law_1377 (by decide) ?_
          refine va_forget (fun q hq => hS.2.2 q hq) ?_
          refine W.widen (k := 600000) (n := 7302250) (Nat.le_of_ble_eq_true rfl) (Nat.le_of_ble_eq_true rfl) ?_
          exact lw_ret hx hb hr hlocks dL_law_1378
        · exact absurd c_233 (by decide)
      · exact absurd c_230 (by decide)
    · exfalso; omega
    · exfalso; omega
    · exfalso; omega
  · refine lv_aload_n hx hb dL_law_521 rfl (lv_at hl 1 rfl) ?_
    refine lv_aload_n hx hb dL_law_522 rfl (lv_at hl 3 rfl) ?_
    refine lv_iload_n hx hb dL_law_523 rfl (lv_at hl 0 rfl) ?_
    refine lv_iconst (v := 1) hx hb dL_law_524 (by decide) ?_
    refine lv_iadd hx hb dL_law_525 ?_
    refine lv_topi (fun y_234 ey_234 => ?_)
    obtain rfl : y_234 = 1 := ey_234.trans (by decide)
    refine va_sld hx hb hX hbl hbA hS (zf_in (by decide) (by decide)) dL_law_526 ?_
    refine lv_topi (fun y_235 ey_235 => ?_)
    obtain rfl : a_3 = y_235 := ea_3.trans ey_235.symm
    refine lv_aload_n hx hb dL_law_527 rfl (lv_at hl 3 rfl) ?_
    refine lv_iload_n hx hb dL_law_528 rfl (lv_at hl 0 rfl) ?_
    refine lv_iconst (v := 2) hx hb dL_law_529 (by decide) ?_
    refine lv_iadd hx hb dL_law_530 ?_
    refine lv_topi (fun y_236 ey_236 => ?_)
    obtain rfl : y_236 = 2 := ey_236.trans (by decide)
    refine va_sld hx hb hX hbl hbA hS (zf_in (by decide) (by decide)) dL_law_531 ?_
    refine lv_topi (fun y_237 ey_237 => ?_)
    obtain rfl : a_6 = y_237 := ea_6.trans ey_237.symm
    refine lv_aload_n hx hb dL_law_532 rfl (lv_at hl 3 rfl) ?_
    refine lv_iload_n hx hb dL_law_533 rfl (lv_at hl 0 rfl) ?_
    refine lv_iconst (v := 3) hx hb dL_law_534 (by decide) ?_
    refine lv_iadd hx hb dL_law_535 ?_
    refine lv_topi (fun y_238 ey_238 => ?_)
    obtain rfl : y_238 = 3 := ey_238.trans (by decide)
    refine va_sld hx hb hX hbl hbA hS (zf_in (by decide) (by decide)) dL_law_536 ?_
    refine lv_topi (fun y_239 ey_239 => ?_)
    obtain rfl : a_9 = y_239 := ea_9.trans ey_239.symm
    skip
    refine zw_V (As := [.int a_3, .int a_6, .int a_9]) (rest := [.int (-6)]) (wr := [(mla, .inl (cI, 40, .inl (fun _ => 0))), (msl, .inl (cI, 40, .inl (fun _ => 0))), (mco, .inl (cI, 3, .inl (zL3 5 10 50))), (mhe, .inl (cI, 8, .inl (fun _ => 0))), (mso, .inl (cI, 8, .inl (fun _ => 0))), (msi, .inl (cI, 8, .inl (fun _ => 0))), (msh, .inl (cI, 8, .inl (fun _ => 0))), (mce, .inl (cJ, 1280, .inr (.inl (fun _ => 0)))), (mca, .inl (cJ, 160, .inr (.inl (fun _ => 0)))), (mwo, .inl (cI, 64, .inl fw_)), (mnu, .inl (cI, 10, .inl fn_)), (mte, .inl (cI, 3, .inl (fun _ => 0))), (mwa, .inl (cI, 130, .inl (fun _ => 0))), (mke, .inl (cI, 130, .inl (fun _ => 0))), (mma, .inl (cI, 3, .inl (fun _ => 0))), (mth, .inl (cI, 3, .inl (fun _ => 0))), (mtr, .inl (cI, 20, .inl (fun _ => 0)))]) ⟨hx, hb, hml, hown, hts⟩ (c_M_pull l D cI cJ cZ cP cS m0 mrf mki mpa mta mla msl mco mhe mso msi msh mce mca mwo mnu mte mwa mke mma mth mtr (a_3) (a_6) (a_9)  H.size) (cwV 3 hts gq_52 rfl rfl rfl (by decide +kernel) ⟨Nat.le_of_ble_eq_true rfl, Nat.le_of_ble_eq_true rfl⟩) hK hN (hZ.kept hS) hP hD hS hA [0, 1, 2, 3, 4] [5, 6, 7, 8, 9, 10, 11, 12, 13, 14, 15, 16, 17, 18, 19, 20, 21] rfl rfl (by decide) (by decide) (by decide) (va_recv hK hP (ci := 8) (q0 := 0) rfl rfl) rfl hl.1 rfl (Nat.le_of_ble_eq_true rfl) dL_law_537 ⟨Nat.le_of_ble_eq_true rfl, Nat.le_of_ble_eq_true rfl⟩ (fun r_240 u_241 H locs hr_240 hP hD hS => ?_)
    replace hP : va_P D vwCl [(mla, .inl (cI, 40, .inl (fun _ => 0))), (msl, .inl (cI, 40, .inl (fun _ => 0))), (mco, .inl (cI, 3, .inl (zL3 5 10 50))), (mhe, .inl (cI, 8, .inl (fun _ => 0))), (mso, .inl (cI, 8, .inl (fun _ => 0))), (msi, .inl (cI, 8, .inl (fun _ => 0))), (msh, .inl (cI, 8, .inl (fun _ => 0))), (mce, .inl (cJ, 1280, .inr (.inl (fun _ => 0)))), (mca, .inl (cJ, 160, .inr (.inl (fun _ => 0)))), (mwo, .inl (cI, 64, .inl fw_)), (mnu, .inl (cI, 10, .inl fn_)), (mte, .inl (cI, 3, .inl (fun _ => 0))), (mwa, .inl (cI, 130, .inl (fun _ => 0))), (mke, .inl (cI, 130, .inl (fun _ => 0))), (mma, .inl (cI, 3, .inl (fun _ => 0))), (mth, .inl (cI, 3, .inl (fun _ => 0))), (mtr, .inl (cI, 20, .inl (fun _ => 0)))] H := hP
    replace hD : va_D _ [(mla, .inl (cI, 40, .inl (fun _ => 0))), (msl, .inl (cI, 40, .inl (fun _ => 0))), (mco, .inl (cI, 3, .inl (zL3 5 10 50))), (mhe, .inl (cI, 8, .inl (fun _ => 0))), (mso, .inl (cI, 8, .inl (fun _ => 0))), (msi, .inl (cI, 8, .inl (fun _ => 0))), (msh, .inl (cI, 8, .inl (fun _ => 0))), (mce, .inl (cJ, 1280, .inr (.inl (fun _ => 0)))), (mca, .inl (cJ, 160, .inr (.inl (fun _ => 0)))), (mwo, .inl (cI, 64, .inl fw_)), (mnu, .inl (cI, 10, .inl fn_)), (mte, .inl (cI, 3, .inl (fun _ => 0))), (mwa, .inl (cI, 130, .inl (fun _ => 0))), (mke, .inl (cI, 130, .inl (fun _ => 0))), (mma, .inl (cI, 3, .inl (fun _ => 0))), (mth, .inl (cI, 3, .inl (fun _ => 0))), (mtr, .inl (cI, 20, .inl (fun _ => 0)))] := hD
    rcases hr_240 with ⟨rfl, g_242⟩ | ⟨rfl, g_243, g_244, g_245⟩ | ⟨rfl, g_246, g_247, g_248, g_249⟩ | ⟨rfl, g_250, g_251, g_252, g_253, g_254⟩ | ⟨rfl, g_255, g_256, g_257, g_258, g_259, g_260⟩ | ⟨rfl, g_261, g_262, g_263, g_264, g_265, g_266⟩ | ⟨rfl, g_267, g_268⟩
    · exfalso; omega
    · exfalso; omega
    · exfalso; omega
    · exfalso; omega
    · exfalso; omega
    · refine lv_icmp_eq (tgt := 1371) hx hb dL_law_540 (by decide) (fun c_269 => ?_) (fun c_269 => ?_)
      · refine lv_iinc (v := 6) (lv' := [(3, .int 6), (2, .ref m0), (1, .ref x0), (0, .ref b)]) hx hb dL_law_1371 hl (k := 0) rfl (by decide) (by decide) rfl (fun ls hl => ?_)
        refine lv_goto (tgt := 18) hx hb dL_law_1374 (by decide) ?_
        refine lv_iload_n hx hb dL_law_18 rfl (lv_at hl 0 rfl) ?_
        refine lv_aload_n hx hb dL_law_19 rfl (lv_at hl 3 rfl) ?_
        refine va_slen hx hb hX hbl hbA hS dL_law_20 ?_
        refine lv_topi (fun y_270 ey_270 => ?_)
        obtain rfl : y_270 = 6 := ey_270.trans (by decide)
        refine lv_bipush (v := 6) hx hb dL_law_21 (by decide) ?_
        refine lv_isub hx hb dL_law_23 ?_
        refine lv_topi (fun y_271 ey_271 => ?_)
        obtain rfl : y_271 = 0 := ey_271.trans (by decide)
        refine lv_icmp_gt (tgt := 1377) hx hb dL_law_24 (by decide) (fun c_272 => ?_) (fun c_272 => ?_)
        · refine lv_iconst (v := 1) hx hb dL_law_1377 (by decide) ?_
          refine va_forget (fun q hq => hS.2.2 q hq) ?_
          refine W.widen (k := 600000) (n := 7302250) (Nat.le_of_ble_eq_true rfl) (Nat.le_of_ble_eq_true rfl) ?_
          exact lw_ret hx hb hr hlocks dL_law_1378
        · exact absurd c_272 (by decide)
      · exact absurd c_269 (by decide)
    · exfalso; omega
  · refine lv_aload_n hx hb dL_law_521 rfl (lv_at hl 1 rfl) ?_
    refine lv_aload_n hx hb dL_law_522 rfl (lv_at hl 3 rfl) ?_
    refine lv_iload_n hx hb dL_law_523 rfl (lv_at hl 0 rfl) ?_
    refine lv_iconst (v := 1) hx hb dL_law_524 (by decide) ?_
    refine lv_iadd hx hb dL_law_525 ?_
    refine lv_topi (fun y_273 ey_273 => ?_)
    obtain rfl : y_273 = 1 := ey_273.trans (by decide)
    refine va_sld hx hb hX hbl hbA hS (zf_in (by decide) (by decide)) dL_law_526 ?_
    refine lv_topi (fun y_274 ey_274 => ?_)
    obtain rfl : a_3 = y_274 := ea_3.trans ey_274.symm
    refine lv_aload_n hx hb dL_law_527 rfl (lv_at hl 3 rfl) ?_
    refine lv_iload_n hx hb dL_law_528 rfl (lv_at hl 0 rfl) ?_
    refine lv_iconst (v := 2) hx hb dL_law_529 (by decide) ?_
    refine lv_iadd hx hb dL_law_530 ?_
    refine lv_topi (fun y_275 ey_275 => ?_)
    obtain rfl : y_275 = 2 := ey_275.trans (by decide)
    refine va_sld hx hb hX hbl hbA hS (zf_in (by decide) (by decide)) dL_law_531 ?_
    refine lv_topi (fun y_276 ey_276 => ?_)
    obtain rfl : a_6 = y_276 := ea_6.trans ey_276.symm
    refine lv_aload_n hx hb dL_law_532 rfl (lv_at hl 3 rfl) ?_
    refine lv_iload_n hx hb dL_law_533 rfl (lv_at hl 0 rfl) ?_
    refine lv_iconst (v := 3) hx hb dL_law_534 (by decide) ?_
    refine lv_iadd hx hb dL_law_535 ?_
    refine lv_topi (fun y_277 ey_277 => ?_)
    obtain rfl : y_277 = 3 := ey_277.trans (by decide)
    refine va_sld hx hb hX hbl hbA hS (zf_in (by decide) (by decide)) dL_law_536 ?_
    refine lv_topi (fun y_278 ey_278 => ?_)
    obtain rfl : a_9 = y_278 := ea_9.trans ey_278.symm
    skip
    refine zw_V (As := [.int a_3, .int a_6, .int a_9]) (rest := [.int 0]) (wr := [(mla, .inl (cI, 40, .inl (fun _ => 0))), (msl, .inl (cI, 40, .inl (fun _ => 0))), (mco, .inl (cI, 3, .inl (zL3 5 10 50))), (mhe, .inl (cI, 8, .inl (fun _ => 0))), (mso, .inl (cI, 8, .inl (fun _ => 0))), (msi, .inl (cI, 8, .inl (fun _ => 0))), (msh, .inl (cI, 8, .inl (fun _ => 0))), (mce, .inl (cJ, 1280, .inr (.inl (fun _ => 0)))), (mca, .inl (cJ, 160, .inr (.inl (fun _ => 0)))), (mwo, .inl (cI, 64, .inl fw_)), (mnu, .inl (cI, 10, .inl fn_)), (mte, .inl (cI, 3, .inl (fun _ => 0))), (mwa, .inl (cI, 130, .inl (fun _ => 0))), (mke, .inl (cI, 130, .inl (fun _ => 0))), (mma, .inl (cI, 3, .inl (fun _ => 0))), (mth, .inl (cI, 3, .inl (fun _ => 0))), (mtr, .inl (cI, 20, .inl (fun _ => 0)))]) ⟨hx, hb, hml, hown, hts⟩ (c_M_pull l D cI cJ cZ cP cS m0 mrf mki mpa mta mla msl mco mhe mso msi msh mce mca mwo mnu mte mwa mke mma mth mtr (a_3) (a_6) (a_9)  H.size) (cwV 3 hts gq_52 rfl rfl rfl (by decide +kernel) ⟨Nat.le_of_ble_eq_true rfl, Nat.le_of_ble_eq_true rfl⟩) hK hN (hZ.kept hS) hP hD hS hA [0, 1, 2, 3, 4] [5, 6, 7, 8, 9, 10, 11, 12, 13, 14, 15, 16, 17, 18, 19, 20, 21] rfl rfl (by decide) (by decide) (by decide) (va_recv hK hP (ci := 8) (q0 := 0) rfl rfl) rfl hl.1 rfl (Nat.le_of_ble_eq_true rfl) dL_law_537 ⟨Nat.le_of_ble_eq_true rfl, Nat.le_of_ble_eq_true rfl⟩ (fun r_279 u_280 H locs hr_279 hP hD hS => ?_)
    replace hP : va_P D vwCl [(mla, .inl (cI, 40, .inl (fun _ => 0))), (msl, .inl (cI, 40, .inl (fun _ => 0))), (mco, .inl (cI, 3, .inl (zL3 5 10 50))), (mhe, .inl (cI, 8, .inl (fun _ => 0))), (mso, .inl (cI, 8, .inl (fun _ => 0))), (msi, .inl (cI, 8, .inl (fun _ => 0))), (msh, .inl (cI, 8, .inl (fun _ => 0))), (mce, .inl (cJ, 1280, .inr (.inl (fun _ => 0)))), (mca, .inl (cJ, 160, .inr (.inl (fun _ => 0)))), (mwo, .inl (cI, 64, .inl fw_)), (mnu, .inl (cI, 10, .inl fn_)), (mte, .inl (cI, 3, .inl (fun _ => 0))), (mwa, .inl (cI, 130, .inl (fun _ => 0))), (mke, .inl (cI, 130, .inl (fun _ => 0))), (mma, .inl (cI, 3, .inl (fun _ => 0))), (mth, .inl (cI, 3, .inl (fun _ => 0))), (mtr, .inl (cI, 20, .inl (fun _ => 0)))] H := hP
    replace hD : va_D _ [(mla, .inl (cI, 40, .inl (fun _ => 0))), (msl, .inl (cI, 40, .inl (fun _ => 0))), (mco, .inl (cI, 3, .inl (zL3 5 10 50))), (mhe, .inl (cI, 8, .inl (fun _ => 0))), (mso, .inl (cI, 8, .inl (fun _ => 0))), (msi, .inl (cI, 8, .inl (fun _ => 0))), (msh, .inl (cI, 8, .inl (fun _ => 0))), (mce, .inl (cJ, 1280, .inr (.inl (fun _ => 0)))), (mca, .inl (cJ, 160, .inr (.inl (fun _ => 0)))), (mwo, .inl (cI, 64, .inl fw_)), (mnu, .inl (cI, 10, .inl fn_)), (mte, .inl (cI, 3, .inl (fun _ => 0))), (mwa, .inl (cI, 130, .inl (fun _ => 0))), (mke, .inl (cI, 130, .inl (fun _ => 0))), (mma, .inl (cI, 3, .inl (fun _ => 0))), (mth, .inl (cI, 3, .inl (fun _ => 0))), (mtr, .inl (cI, 20, .inl (fun _ => 0)))] := hD
    rcases hr_279 with ⟨rfl, g_281⟩ | ⟨rfl, g_282, g_283, g_284⟩ | ⟨rfl, g_285, g_286, g_287, g_288⟩ | ⟨rfl, g_289, g_290, g_291, g_292, g_293⟩ | ⟨rfl, g_294, g_295, g_296, g_297, g_298, g_299⟩ | ⟨rfl, g_300, g_301, g_302, g_303, g_304, g_305⟩ | ⟨rfl, g_306, g_307⟩
    · exfalso; omega
    · exfalso; omega
    · exfalso; omega
    · exfalso; omega
    · refine lv_icmp_eq (tgt := 1371) hx hb dL_law_540 (by decide) (fun c_308 => ?_) (fun c_308 => ?_)
      · refine lv_iinc (v := 6) (lv' := [(3, .int 6), (2, .ref m0), (1, .ref x0), (0, .ref b)]) hx hb dL_law_1371 hl (k := 0) rfl (by decide) (by decide) rfl (fun ls hl => ?_)
        refine lv_goto (tgt := 18) hx hb dL_law_1374 (by decide) ?_
        refine lv_iload_n hx hb dL_law_18 rfl (lv_at hl 0 rfl) ?_
        refine lv_aload_n hx hb dL_law_19 rfl (lv_at hl 3 rfl) ?_
        refine va_slen hx hb hX hbl hbA hS dL_law_20 ?_
        refine lv_topi (fun y_309 ey_309 => ?_)
        obtain rfl : y_309 = 6 := ey_309.trans (by decide)
        refine lv_bipush (v := 6) hx hb dL_law_21 (by decide) ?_
        refine lv_isub hx hb dL_law_23 ?_
        refine lv_topi (fun y_310 ey_310 => ?_)
        obtain rfl : y_310 = 0 := ey_310.trans (by decide)
        refine lv_icmp_gt (tgt := 1377) hx hb dL_law_24 (by decide) (fun c_311 => ?_) (fun c_311 => ?_)
        · refine lv_iconst (v := 1) hx hb dL_law_1377 (by decide) ?_
          refine va_forget (fun q hq => hS.2.2 q hq) ?_
          refine W.widen (k := 600000) (n := 7302250) (Nat.le_of_ble_eq_true rfl) (Nat.le_of_ble_eq_true rfl) ?_
          exact lw_ret hx hb hr hlocks dL_law_1378
        · exact absurd c_311 (by decide)
      · exact absurd c_308 (by decide)
    · exfalso; omega
    · exfalso; omega
set_option maxHeartbeats 8000000 in
set_option maxRecDepth 100000 in
theorem law_case_8 {p : Program} {l : Launch} {e : Env} {s : State} {m : MethodId} {below : List Frame} {meth : Method} {c : Code} {D : va_G} {cI cJ cZ cP cS : ClassId} {b : Nat} {xs_ : Nat → Int32} (x0 xs j0 k0 w0 rd mv xr z0 jp jc zl zs kz kp kc kzl kzs wk wl wc wp ri rl mb m0 mrf mki mpa mta mla msl mco mhe mso msi msh mce mca mwo mnu mte mwa mke mma mth mtr : Nat) (sh el : Nat → Nat) (fw_ fn_ : Nat → Int32) (C0 : lw_At p s m meth c b 6 xs_) (hK : va_K D vwCl (zKT cI cJ cZ cP cS) s) (hN : zN s) (hZ : zSt (fun q : Nat => s.heap.size ≤ q) s s.heap) (H : Heap) (locs : List Loc) (hP : va_P D vwCl (zLW cI cJ cZ cP cS x0 xs j0 k0 w0 rd mv xr z0 jp jc zl zs kz kp kc kzl kzs wk wl wc wp ri rl mb m0 mrf mki mpa mta mla msl mco mhe mso msi msh mce mca mwo mnu mte mwa mke mma mth mtr sh el fw_ fn_) H) (hD : va_D (fun q : Nat => s.heap.size ≤ q) (zLW cI cJ cZ cP cS x0 xs j0 k0 w0 rd mv xr z0 jp jc zl zs kz kp kc kzl kzs wk wl wc wp ri rl mb m0 mrf mki mpa mta mla msl mco mhe mso msi msh mce mca mwo mnu mte mwa mke mma mth mtr sh el fw_ fn_)) (hS : va_S (fun q : Nat => s.heap.size ≤ q) s.heap H locs) (ls : Array Slot) (hl : lv_has ls 4 [(3, .int 0), (2, .ref m0), (1, .ref x0), (0, .ref b)]) : W p l e room_1 s m #[Value.ref b] below meth c H locs 100 10000 (lw_Z below #[Value.ref b] s) (F0 m 545 ls []) := by
  obtain ⟨hx, hb, hr, hml, hown0, hts, hX, hbl, hlocks, hgv⟩ := id C0
  have hown : s.vm.findClass RL = some m.cls := hown0
  have hA : ∀ q : Nat, s.heap.size ≤ q → (fun q : Nat => s.heap.size ≤ q) q := fun _ h => h
  have hbA : ¬ (fun q : Nat => s.heap.size ≤ q) b := Nat.not_le.mpr hbl
  replace hP : va_P D vwCl ((x0, .inr (7, [.ref xs, .ref j0, .ref k0, .ref w0, .ref rd, .ref mv, .ref xr, .int 0, .int (-1)])) :: (xs, .inl (cS, 8, .inr (.inr (.inr (.inr (zS sh)))))) :: (j0, .inr (0, [.ref z0, .ref jp, .ref jc, .int 0, .int 0, .int 0, .int 60, .int 0, .int 1])) :: (z0, .inr (6, [.ref zl, .ref zs, .int 20, .int 0, .int 3])) :: (zl, .inl (cZ, 40, .inl (fun _ => 0))) :: (zs, .inl (cI, 40, .inl (fun _ => 0))) :: (jp, .inl (cP, 8, .inr (.inr (.inr (.inr (fun _ => none)))))) :: (jc, .inl (cI, 3, .inl (zL3 5 10 50))) :: (k0, .inr (0, [.ref kz, .ref kp, .ref kc, .int 0, .int 0, .int 0, .int 60, .int 0, .int 1])) :: (kz, .inr (6, [.ref kzl, .ref kzs, .int 20, .int 0, .int 3])) :: (kzl, .inl (cZ, 40, .inl (fun _ => 0))) :: (kzs, .inl (cI, 40, .inl (fun _ => 0))) :: (kp, .inl (cP, 8, .inr (.inr (.inr (.inr (fun _ => none)))))) :: (kc, .inl (cI, 3, .inl (zL3 5 10 50))) :: (w0, .inr (5, [.ref wk, .ref wl, .ref wc, .ref wp, .int 0, .int 0, .int 0])) :: (wk, .inl (cI, 125, .inl (fun _ => 0))) :: (wl, .inl (cI, 125, .inl (fun _ => 0))) :: (wc, .inl (cI, 3, .inl (fun _ => 0))) :: (wp, .inl (cP, 8, .inr (.inr (.inr (.inr (fun _ => none)))))) :: (rd, .inr (3, [.ref ri, .ref rl, .int 0, .int 0, .int 0, .int (-1), .int 0, .int 0])) :: (ri, .inl (cI, 132, .inl (fun _ => 0))) :: (rl, .inl (cI, 160, .inl (fun _ => 0))) :: (mv, .inr (1, [.ref mb, .int 0, .int 0, .int 0, .int 0])) :: (mb, .inl (cI, 20, .inl (fun _ => 0))) :: (xr, .inl (cI, 8, .inl (fun _ => 0))) :: ((sh 0), .inr (4, [.ref (el 0), .int (-1), .int 0])) :: ((el 0), .inl (cJ, 160, .inr (.inl (fun _ => 0)))) :: ((sh 1), .inr (4, [.ref (el 1), .int (-1), .int 0])) :: ((el 1), .inl (cJ, 160, .inr (.inl (fun _ => 0)))) :: ((sh 2), .inr (4, [.ref (el 2), .int (-1), .int 0])) :: ((el 2), .inl (cJ, 160, .inr (.inl (fun _ => 0)))) :: ((sh 3), .inr (4, [.ref (el 3), .int (-1), .int 0])) :: ((el 3), .inl (cJ, 160, .inr (.inl (fun _ => 0)))) :: ((sh 4), .inr (4, [.ref (el 4), .int (-1), .int 0])) :: ((el 4), .inl (cJ, 160, .inr (.inl (fun _ => 0)))) :: ((sh 5), .inr (4, [.ref (el 5), .int (-1), .int 0])) :: ((el 5), .inl (cJ, 160, .inr (.inl (fun _ => 0)))) :: ((sh 6), .inr (4, [.ref (el 6), .int (-1), .int 0])) :: ((el 6), .inl (cJ, 160, .inr (.inl (fun _ => 0)))) :: ((sh 7), .inr (4, [.ref (el 7), .int (-1), .int 0])) :: ((el 7), .inl (cJ, 160, .inr (.inl (fun _ => 0)))) :: (m0, .inr (8, (.int 0 :: .int 20 :: .int 0 :: .int 0 :: .int 0 :: .int 60 :: .int 0 :: .int 3 :: .int 1 :: .int (-1) :: .ref mrf :: .ref mki :: .ref mpa :: .ref mta :: .ref mla :: .ref msl :: .ref mco :: .ref mhe :: .ref mso :: .ref msi :: .ref msh :: .ref mce :: .ref mca :: .ref mwo :: .ref mnu :: .ref mte :: .int 0 :: .int 0 :: .int 0 :: .int 0 :: .int 0 :: .ref mwa :: .ref mke :: .ref mma :: .ref mth :: .ref mtr :: .int 0 :: .int 0 :: []))) :: (mrf, .inl (cI, 8, .inl (fun _ => 0))) :: (mki, .inl (cI, 8, .inl (fun _ => 0))) :: (mpa, .inl (cI, 8, .inl (fun _ => 0))) :: (mta, .inl (cI, 8, .inl (fun _ => 0))) :: (mla, .inl (cI, 40, .inl (fun _ => 0))) :: (msl, .inl (cI, 40, .inl (fun _ => 0))) :: (mco, .inl (cI, 3, .inl (zL3 5 10 50))) :: (mhe, .inl (cI, 8, .inl (fun _ => 0))) :: (mso, .inl (cI, 8, .inl (fun _ => 0))) :: (msi, .inl (cI, 8, .inl (fun _ => 0))) :: (msh, .inl (cI, 8, .inl (fun _ => 0))) :: (mce, .inl (cJ, 1280, .inr (.inl (fun _ => 0)))) :: (mca, .inl (cJ, 160, .inr (.inl (fun _ => 0)))) :: (mwo, .inl (cI, 64, .inl fw_)) :: (mnu, .inl (cI, 10, .inl fn_)) :: (mte, .inl (cI, 3, .inl (fun _ => 0))) :: (mwa, .inl (cI, 130, .inl (fun _ => 0))) :: (mke, .inl (cI, 130, .inl (fun _ => 0))) :: (mma, .inl (cI, 3, .inl (fun _ => 0))) :: (mth, .inl (cI, 3, .inl (fun _ => 0))) :: (mtr, .inl (cI, 20, .inl (fun _ => 0))) :: []) H := hP
  replace hD : va_D _ ((x0, .inr (7, [.ref xs, .ref j0, .ref k0, .ref w0, .ref rd, .ref mv, .ref xr, .int 0, .int (-1)])) :: (xs, .inl (cS, 8, .inr (.inr (.inr (.inr (zS sh)))))) :: (j0, .inr (0, [.ref z0, .ref jp, .ref jc, .int 0, .int 0, .int 0, .int 60, .int 0, .int 1])) :: (z0, .inr (6, [.ref zl, .ref zs, .int 20, .int 0, .int 3])) :: (zl, .inl (cZ, 40, .inl (fun _ => 0))) :: (zs, .inl (cI, 40, .inl (fun _ => 0))) :: (jp, .inl (cP, 8, .inr (.inr (.inr (.inr (fun _ => none)))))) :: (jc, .inl (cI, 3, .inl (zL3 5 10 50))) :: (k0, .inr (0, [.ref kz, .ref kp, .ref kc, .int 0, .int 0, .int 0, .int 60, .int 0, .int 1])) :: (kz, .inr (6, [.ref kzl, .ref kzs, .int 20, .int 0, .int 3])) :: (kzl, .inl (cZ, 40, .inl (fun _ => 0))) :: (kzs, .inl (cI, 40, .inl (fun _ => 0))) :: (kp, .inl (cP, 8, .inr (.inr (.inr (.inr (fun _ => none)))))) :: (kc, .inl (cI, 3, .inl (zL3 5 10 50))) :: (w0, .inr (5, [.ref wk, .ref wl, .ref wc, .ref wp, .int 0, .int 0, .int 0])) :: (wk, .inl (cI, 125, .inl (fun _ => 0))) :: (wl, .inl (cI, 125, .inl (fun _ => 0))) :: (wc, .inl (cI, 3, .inl (fun _ => 0))) :: (wp, .inl (cP, 8, .inr (.inr (.inr (.inr (fun _ => none)))))) :: (rd, .inr (3, [.ref ri, .ref rl, .int 0, .int 0, .int 0, .int (-1), .int 0, .int 0])) :: (ri, .inl (cI, 132, .inl (fun _ => 0))) :: (rl, .inl (cI, 160, .inl (fun _ => 0))) :: (mv, .inr (1, [.ref mb, .int 0, .int 0, .int 0, .int 0])) :: (mb, .inl (cI, 20, .inl (fun _ => 0))) :: (xr, .inl (cI, 8, .inl (fun _ => 0))) :: ((sh 0), .inr (4, [.ref (el 0), .int (-1), .int 0])) :: ((el 0), .inl (cJ, 160, .inr (.inl (fun _ => 0)))) :: ((sh 1), .inr (4, [.ref (el 1), .int (-1), .int 0])) :: ((el 1), .inl (cJ, 160, .inr (.inl (fun _ => 0)))) :: ((sh 2), .inr (4, [.ref (el 2), .int (-1), .int 0])) :: ((el 2), .inl (cJ, 160, .inr (.inl (fun _ => 0)))) :: ((sh 3), .inr (4, [.ref (el 3), .int (-1), .int 0])) :: ((el 3), .inl (cJ, 160, .inr (.inl (fun _ => 0)))) :: ((sh 4), .inr (4, [.ref (el 4), .int (-1), .int 0])) :: ((el 4), .inl (cJ, 160, .inr (.inl (fun _ => 0)))) :: ((sh 5), .inr (4, [.ref (el 5), .int (-1), .int 0])) :: ((el 5), .inl (cJ, 160, .inr (.inl (fun _ => 0)))) :: ((sh 6), .inr (4, [.ref (el 6), .int (-1), .int 0])) :: ((el 6), .inl (cJ, 160, .inr (.inl (fun _ => 0)))) :: ((sh 7), .inr (4, [.ref (el 7), .int (-1), .int 0])) :: ((el 7), .inl (cJ, 160, .inr (.inl (fun _ => 0)))) :: (m0, .inr (8, (.int 0 :: .int 20 :: .int 0 :: .int 0 :: .int 0 :: .int 60 :: .int 0 :: .int 3 :: .int 1 :: .int (-1) :: .ref mrf :: .ref mki :: .ref mpa :: .ref mta :: .ref mla :: .ref msl :: .ref mco :: .ref mhe :: .ref mso :: .ref msi :: .ref msh :: .ref mce :: .ref mca :: .ref mwo :: .ref mnu :: .ref mte :: .int 0 :: .int 0 :: .int 0 :: .int 0 :: .int 0 :: .ref mwa :: .ref mke :: .ref mma :: .ref mth :: .ref mtr :: .int 0 :: .int 0 :: []))) :: (mrf, .inl (cI, 8, .inl (fun _ => 0))) :: (mki, .inl (cI, 8, .inl (fun _ => 0))) :: (mpa, .inl (cI, 8, .inl (fun _ => 0))) :: (mta, .inl (cI, 8, .inl (fun _ => 0))) :: (mla, .inl (cI, 40, .inl (fun _ => 0))) :: (msl, .inl (cI, 40, .inl (fun _ => 0))) :: (mco, .inl (cI, 3, .inl (zL3 5 10 50))) :: (mhe, .inl (cI, 8, .inl (fun _ => 0))) :: (mso, .inl (cI, 8, .inl (fun _ => 0))) :: (msi, .inl (cI, 8, .inl (fun _ => 0))) :: (msh, .inl (cI, 8, .inl (fun _ => 0))) :: (mce, .inl (cJ, 1280, .inr (.inl (fun _ => 0)))) :: (mca, .inl (cJ, 160, .inr (.inl (fun _ => 0)))) :: (mwo, .inl (cI, 64, .inl fw_)) :: (mnu, .inl (cI, 10, .inl fn_)) :: (mte, .inl (cI, 3, .inl (fun _ => 0))) :: (mwa, .inl (cI, 130, .inl (fun _ => 0))) :: (mke, .inl (cI, 130, .inl (fun _ => 0))) :: (mma, .inl (cI, 3, .inl (fun _ => 0))) :: (mth, .inl (cI, 3, .inl (fun _ => 0))) :: (mtr, .inl (cI, 20, .inl (fun _ => 0))) :: []) := hD
  refine lv_aload_n hx hb dL_law_545 rfl (lv_at hl 2 rfl) ?_
  refine lv_aload_n hx hb dL_law_546 rfl (lv_at hl 3 rfl) ?_
  refine lv_iload_n hx hb dL_law_547 rfl (lv_at hl 0 rfl) ?_
  refine lv_iconst (v := 1) hx hb dL_law_548 (by decide) ?_
  refine lv_iadd hx hb dL_law_549 ?_
  refine lv_topi (fun y_1 ey_1 => ?_)
  obtain rfl : y_1 = 1 := ey_1.trans (by decide)
  refine va_sld hx hb hX hbl hbA hS (zf_in (by decide) (by decide)) dL_law_550 ?_
  refine lv_topi (fun a_3 ea_3 => ?_)
  refine lv_aload_n hx hb dL_law_551 rfl (lv_at hl 3 rfl) ?_
  refine lv_iload_n hx hb dL_law_552 rfl (lv_at hl 0 rfl) ?_
  refine lv_iconst (v := 2) hx hb dL_law_553 (by decide) ?_
  refine lv_iadd hx hb dL_law_554 ?_
  refine lv_topi (fun y_4 ey_4 => ?_)
  obtain rfl : y_4 = 2 := ey_4.trans (by decide)
  refine va_sld hx hb hX hbl hbA hS (zf_in (by decide) (by decide)) dL_law_555 ?_
  refine lv_topi (fun a_6 ea_6 => ?_)
  skip
  refine zw_V (As := [.int a_3, .int a_6]) (rest := []) (wr := ((m0, .inr (8, (.int 0 :: .int 20 :: .int 0 :: .int 0 :: .int 0 :: .int 60 :: .int 0 :: .int 3 :: .int 1 :: .int (-1) :: .ref mrf :: .ref mki :: .ref mpa :: .ref mta :: .ref mla :: .ref msl :: .ref mco :: .ref mhe :: .ref mso :: .ref msi :: .ref msh :: .ref mce :: .ref mca :: .ref mwo :: .ref mnu :: .ref mte :: .int 0 :: .int 0 :: .int 0 :: .int 0 :: .int 0 :: .ref mwa :: .ref mke :: .ref mma :: .ref mth :: .ref mtr :: .int 0 :: .int 0 :: []))) :: (mrf, .inl (cI, 8, .inl (fun _ => 0))) :: (mki, .inl (cI, 8, .inl (fun _ => 0))) :: (mpa, .inl (cI, 8, .inl (fun _ => 0))) :: (mta, .inl (cI, 8, .inl (fun _ => 0))) :: (mla, .inl (cI, 40, .inl (fun _ => 0))) :: (msl, .inl (cI, 40, .inl (fun _ => 0))) :: (mco, .inl (cI, 3, .inl (zL3 5 10 50))) :: (mhe, .inl (cI, 8, .inl (fun _ => 0))) :: (mso, .inl (cI, 8, .inl (fun _ => 0))) :: (msi, .inl (cI, 8, .inl (fun _ => 0))) :: (msh, .inl (cI, 8, .inl (fun _ => 0))) :: (mce, .inl (cJ, 1280, .inr (.inl (fun _ => 0)))) :: (mca, .inl (cJ, 160, .inr (.inl (fun _ => 0)))) :: (mwo, .inl (cI, 64, .inl fw_)) :: (mnu, .inl (cI, 10, .inl fn_)) :: (mte, .inl (cI, 3, .inl (fun _ => 0))) :: (mwa, .inl (cI, 130, .inl (fun _ => 0))) :: (mke, .inl (cI, 130, .inl (fun _ => 0))) :: (mma, .inl (cI, 3, .inl (fun _ => 0))) :: (mth, .inl (cI, 3, .inl (fun _ => 0))) :: (mtr, .inl (cI, 20, .inl (fun _ => 0))) :: [])) ⟨hx, hb, hml, hown, hts⟩ (c_pullOf l D cI cJ cZ cP cS x0 xs j0 k0 w0 rd mv xr jp jc z0 0 0 (a_3) (a_6)  H.size) (cwV 2 hts gq_53 rfl rfl rfl (by decide +kernel) ⟨Nat.le_of_ble_eq_true rfl, Nat.le_of_ble_eq_true rfl⟩) hK hN (hZ.kept hS) hP hD hS hA [0, 24, 2] [41, 42, 43, 44, 45, 46, 47, 48, 49, 50, 51, 52, 53, 54, 55, 56, 57, 58, 59, 60, 61, 62] rfl rfl (by decide) (by decide) (by decide) (va_recv hK hP (ci := 7) (q0 := 0) rfl rfl) rfl hl.1 rfl (Nat.le_of_ble_eq_true rfl) dL_law_556 ⟨Nat.le_of_ble_eq_true rfl, Nat.le_of_ble_eq_true rfl⟩ (fun r_7 u_8 H locs hr_7 hP hD hS => ?_)
  replace hP : va_P D vwCl ((m0, .inr (8, (.int 0 :: .int 20 :: .int 0 :: .int 0 :: .int 0 :: .int 60 :: .int 0 :: .int 3 :: .int 1 :: .int (-1) :: .ref mrf :: .ref mki :: .ref mpa :: .ref mta :: .ref mla :: .ref msl :: .ref mco :: .ref mhe :: .ref mso :: .ref msi :: .ref msh :: .ref mce :: .ref mca :: .ref mwo :: .ref mnu :: .ref mte :: .int 0 :: .int 0 :: .int 0 :: .int 0 :: .int 0 :: .ref mwa :: .ref mke :: .ref mma :: .ref mth :: .ref mtr :: .int 0 :: .int 0 :: []))) :: (mrf, .inl (cI, 8, .inl (fun _ => 0))) :: (mki, .inl (cI, 8, .inl (fun _ => 0))) :: (mpa, .inl (cI, 8, .inl (fun _ => 0))) :: (mta, .inl (cI, 8, .inl (fun _ => 0))) :: (mla, .inl (cI, 40, .inl (fun _ => 0))) :: (msl, .inl (cI, 40, .inl (fun _ => 0))) :: (mco, .inl (cI, 3, .inl (zL3 5 10 50))) :: (mhe, .inl (cI, 8, .inl (fun _ => 0))) :: (mso, .inl (cI, 8, .inl (fun _ => 0))) :: (msi, .inl (cI, 8, .inl (fun _ => 0))) :: (msh, .inl (cI, 8, .inl (fun _ => 0))) :: (mce, .inl (cJ, 1280, .inr (.inl (fun _ => 0)))) :: (mca, .inl (cJ, 160, .inr (.inl (fun _ => 0)))) :: (mwo, .inl (cI, 64, .inl fw_)) :: (mnu, .inl (cI, 10, .inl fn_)) :: (mte, .inl (cI, 3, .inl (fun _ => 0))) :: (mwa, .inl (cI, 130, .inl (fun _ => 0))) :: (mke, .inl (cI, 130, .inl (fun _ => 0))) :: (mma, .inl (cI, 3, .inl (fun _ => 0))) :: (mth, .inl (cI, 3, .inl (fun _ => 0))) :: (mtr, .inl (cI, 20, .inl (fun _ => 0))) :: []) H := hP
  replace hD : va_D _ ((m0, .inr (8, (.int 0 :: .int 20 :: .int 0 :: .int 0 :: .int 0 :: .int 60 :: .int 0 :: .int 3 :: .int 1 :: .int (-1) :: .ref mrf :: .ref mki :: .ref mpa :: .ref mta :: .ref mla :: .ref msl :: .ref mco :: .ref mhe :: .ref mso :: .ref msi :: .ref msh :: .ref mce :: .ref mca :: .ref mwo :: .ref mnu :: .ref mte :: .int 0 :: .int 0 :: .int 0 :: .int 0 :: .int 0 :: .ref mwa :: .ref mke :: .ref mma :: .ref mth :: .ref mtr :: .int 0 :: .int 0 :: []))) :: (mrf, .inl (cI, 8, .inl (fun _ => 0))) :: (mki, .inl (cI, 8, .inl (fun _ => 0))) :: (mpa, .inl (cI, 8, .inl (fun _ => 0))) :: (mta, .inl (cI, 8, .inl (fun _ => 0))) :: (mla, .inl (cI, 40, .inl (fun _ => 0))) :: (msl, .inl (cI, 40, .inl (fun _ => 0))) :: (mco, .inl (cI, 3, .inl (zL3 5 10 50))) :: (mhe, .inl (cI, 8, .inl (fun _ => 0))) :: (mso, .inl (cI, 8, .inl (fun _ => 0))) :: (msi, .inl (cI, 8, .inl (fun _ => 0))) :: (msh, .inl (cI, 8, .inl (fun _ => 0))) :: (mce, .inl (cJ, 1280, .inr (.inl (fun _ => 0)))) :: (mca, .inl (cJ, 160, .inr (.inl (fun _ => 0)))) :: (mwo, .inl (cI, 64, .inl fw_)) :: (mnu, .inl (cI, 10, .inl fn_)) :: (mte, .inl (cI, 3, .inl (fun _ => 0))) :: (mwa, .inl (cI, 130, .inl (fun _ => 0))) :: (mke, .inl (cI, 130, .inl (fun _ => 0))) :: (mma, .inl (cI, 3, .inl (fun _ => 0))) :: (mth, .inl (cI, 3, .inl (fun _ => 0))) :: (mtr, .inl (cI, 20, .inl (fun _ => 0))) :: []) := hD
  rcases hr_7 with ⟨rfl, g_9⟩ | ⟨rfl, g_10⟩
  · refine lv_aload_n hx hb dL_law_559 rfl (lv_at hl 1 rfl) ?_
    refine lv_aload_n hx hb dL_law_560 rfl (lv_at hl 3 rfl) ?_
    refine lv_iload_n hx hb dL_law_561 rfl (lv_at hl 0 rfl) ?_
    refine lv_iconst (v := 1) hx hb dL_law_562 (by decide) ?_
    refine lv_iadd hx hb dL_law_563 ?_
    refine lv_topi (fun y_11 ey_11 => ?_)
    obtain rfl : y_11 = 1 := ey_11.trans (by decide)
    refine va_sld hx hb hX hbl hbA hS (zf_in (by decide) (by decide)) dL_law_564 ?_
    refine lv_topi (fun y_12 ey_12 => ?_)
    obtain rfl : a_3 = y_12 := ea_3.trans ey_12.symm
    refine lv_aload_n hx hb dL_law_565 rfl (lv_at hl 3 rfl) ?_
    refine lv_iload_n hx hb dL_law_566 rfl (lv_at hl 0 rfl) ?_
    refine lv_iconst (v := 2) hx hb dL_law_567 (by decide) ?_
    refine lv_iadd hx hb dL_law_568 ?_
    refine lv_topi (fun y_13 ey_13 => ?_)
    obtain rfl : y_13 = 2 := ey_13.trans (by decide)
    refine va_sld hx hb hX hbl hbA hS (zf_in (by decide) (by decide)) dL_law_569 ?_
    refine lv_topi (fun y_14 ey_14 => ?_)
    obtain rfl : a_6 = y_14 := ea_6.trans ey_14.symm
    skip
    refine zw_V (As := [.int a_3, .int a_6]) (rest := [.int (-5)]) (wr := [(mki, .inl (cI, 8, .inl (fun _ => 0))), (mpa, .inl (cI, 8, .inl (fun _ => 0))), (mta, .inl (cI, 8, .inl (fun _ => 0))), (mla, .inl (cI, 40, .inl (fun _ => 0))), (msl, .inl (cI, 40, .inl (fun _ => 0))), (mco, .inl (cI, 3, .inl (zL3 5 10 50))), (mhe, .inl (cI, 8, .inl (fun _ => 0))), (mso, .inl (cI, 8, .inl (fun _ => 0))), (msi, .inl (cI, 8, .inl (fun _ => 0))), (msh, .inl (cI, 8, .inl (fun _ => 0))), (mce, .inl (cJ, 1280, .inr (.inl (fun _ => 0)))), (mca, .inl (cJ, 160, .inr (.inl (fun _ => 0)))), (mwo, .inl (cI, 64, .inl fw_)), (mnu, .inl (cI, 10, .inl fn_)), (mte, .inl (cI, 3, .inl (fun _ => 0))), (mwa, .inl (cI, 130, .inl (fun _ => 0))), (mke, .inl (cI, 130, .inl (fun _ => 0))), (mma, .inl (cI, 3, .inl (fun _ => 0))), (mth, .inl (cI, 3, .inl (fun _ => 0))), (mtr, .inl (cI, 20, .inl (fun _ => 0)))]) ⟨hx, hb, hml, hown, hts⟩ (c_M_pullOf l D cI cJ cZ cP cS m0 mrf mki mpa mta mla msl mco mhe mso msi msh mce mca mwo mnu mte mwa mke mma mth mtr (a_3) (a_6)  H.size) (cwV 2 hts gq_56 rfl rfl rfl (by decide +kernel) ⟨Nat.le_of_ble_eq_true rfl, Nat.le_of_ble_eq_true rfl⟩) hK hN (hZ.kept hS) hP hD hS hA [0, 1] [2, 3, 4, 5, 6, 7, 8, 9, 10, 11, 12, 13, 14, 15, 16, 17, 18, 19, 20, 21] rfl rfl (by decide) (by decide) (by decide) (va_recv hK hP (ci := 8) (q0 := 0) rfl rfl) rfl hl.1 rfl (Nat.le_of_ble_eq_true rfl) dL_law_570 ⟨Nat.le_of_ble_eq_true rfl, Nat.le_of_ble_eq_true rfl⟩ (fun r_15 u_16 H locs hr_15 hP hD hS => ?_)
    replace hP : va_P D vwCl [(mki, .inl (cI, 8, .inl (fun _ => 0))), (mpa, .inl (cI, 8, .inl (fun _ => 0))), (mta, .inl (cI, 8, .inl (fun _ => 0))), (mla, .inl (cI, 40, .inl (fun _ => 0))), (msl, .inl (cI, 40, .inl (fun _ => 0))), (mco, .inl (cI, 3, .inl (zL3 5 10 50))), (mhe, .inl (cI, 8, .inl (fun _ => 0))), (mso, .inl (cI, 8, .inl (fun _ => 0))), (msi, .inl (cI, 8, .inl (fun _ => 0))), (msh, .inl (cI, 8, .inl (fun _ => 0))), (mce, .inl (cJ, 1280, .inr (.inl (fun _ => 0)))), (mca, .inl (cJ, 160, .inr (.inl (fun _ => 0)))), (mwo, .inl (cI, 64, .inl fw_)), (mnu, .inl (cI, 10, .inl fn_)), (mte, .inl (cI, 3, .inl (fun _ => 0))), (mwa, .inl (cI, 130, .inl (fun _ => 0))), (mke, .inl (cI, 130, .inl (fun _ => 0))), (mma, .inl (cI, 3, .inl (fun _ => 0))), (mth, .inl (cI, 3, .inl (fun _ => 0))), (mtr, .inl (cI, 20, .inl (fun _ => 0)))] H := hP
    replace hD : va_D _ [(mki, .inl (cI, 8, .inl (fun _ => 0))), (mpa, .inl (cI, 8, .inl (fun _ => 0))), (mta, .inl (cI, 8, .inl (fun _ => 0))), (mla, .inl (cI, 40, .inl (fun _ => 0))), (msl, .inl (cI, 40, .inl (fun _ => 0))), (mco, .inl (cI, 3, .inl (zL3 5 10 50))), (mhe, .inl (cI, 8, .inl (fun _ => 0))), (mso, .inl (cI, 8, .inl (fun _ => 0))), (msi, .inl (cI, 8, .inl (fun _ => 0))), (msh, .inl (cI, 8, .inl (fun _ => 0))), (mce, .inl (cJ, 1280, .inr (.inl (fun _ => 0)))), (mca, .inl (cJ, 160, .inr (.inl (fun _ => 0)))), (mwo, .inl (cI, 64, .inl fw_)), (mnu, .inl (cI, 10, .inl fn_)), (mte, .inl (cI, 3, .inl (fun _ => 0))), (mwa, .inl (cI, 130, .inl (fun _ => 0))), (mke, .inl (cI, 130, .inl (fun _ => 0))), (mma, .inl (cI, 3, .inl (fun _ => 0))), (mth, .inl (cI, 3, .inl (fun _ => 0))), (mtr, .inl (cI, 20, .inl (fun _ => 0)))] := hD
    rcases hr_15 with ⟨rfl, g_17⟩ | ⟨rfl, g_18⟩
    · refine lv_icmp_eq (tgt := 1371) hx hb dL_law_573 (by decide) (fun c_19 => ?_) (fun c_19 => ?_)
      · refine lv_iinc (v := 6) (lv' := [(3, .int 6), (2, .ref m0), (1, .ref x0), (0, .ref b)]) hx hb dL_law_1371 hl (k := 0) rfl (by decide) (by decide) rfl (fun ls hl => ?_)
        refine lv_goto (tgt := 18) hx hb dL_law_1374 (by decide) ?_
        refine lv_iload_n hx hb dL_law_18 rfl (lv_at hl 0 rfl) ?_
        refine lv_aload_n hx hb dL_law_19 rfl (lv_at hl 3 rfl) ?_
        refine va_slen hx hb hX hbl hbA hS dL_law_20 ?_
        refine lv_topi (fun y_20 ey_20 => ?_)
        obtain rfl : y_20 = 6 := ey_20.trans (by decide)
        refine lv_bipush (v := 6) hx hb dL_law_21 (by decide) ?_
        refine lv_isub hx hb dL_law_23 ?_
        refine lv_topi (fun y_21 ey_21 => ?_)
        obtain rfl : y_21 = 0 := ey_21.trans (by decide)
        refine lv_icmp_gt (tgt := 1377) hx hb dL_law_24 (by decide) (fun c_22 => ?_) (fun c_22 => ?_)
        · refine lv_iconst (v := 1) hx hb dL_law_1377 (by decide) ?_
          refine va_forget (fun q hq => hS.2.2 q hq) ?_
          refine W.widen (k := 600000) (n := 7302250) (Nat.le_of_ble_eq_true rfl) (Nat.le_of_ble_eq_true rfl) ?_
          exact lw_ret hx hb hr hlocks dL_law_1378
        · exact absurd c_22 (by decide)
      · exact absurd c_19 (by decide)
    · exfalso; omega
  · refine lv_aload_n hx hb dL_law_559 rfl (lv_at hl 1 rfl) ?_
    refine lv_aload_n hx hb dL_law_560 rfl (lv_at hl 3 rfl) ?_
    refine lv_iload_n hx hb dL_law_561 rfl (lv_at hl 0 rfl) ?_
    refine lv_iconst (v := 1) hx hb dL_law_562 (by decide) ?_
    refine lv_iadd hx hb dL_law_563 ?_
    refine lv_topi (fun y_23 ey_23 => ?_)
    obtain rfl : y_23 = 1 := ey_23.trans (by decide)
    refine va_sld hx hb hX hbl hbA hS (zf_in (by decide) (by decide)) dL_law_564 ?_
    refine lv_topi (fun y_24 ey_24 => ?_)
    obtain rfl : a_3 = y_24 := ea_3.trans ey_24.symm
    refine lv_aload_n hx hb dL_law_565 rfl (lv_at hl 3 rfl) ?_
    refine lv_iload_n hx hb dL_law_566 rfl (lv_at hl 0 rfl) ?_
    refine lv_iconst (v := 2) hx hb dL_law_567 (by decide) ?_
    refine lv_iadd hx hb dL_law_568 ?_
    refine lv_topi (fun y_25 ey_25 => ?_)
    obtain rfl : y_25 = 2 := ey_25.trans (by decide)
    refine va_sld hx hb hX hbl hbA hS (zf_in (by decide) (by decide)) dL_law_569 ?_
    refine lv_topi (fun y_26 ey_26 => ?_)
    obtain rfl : a_6 = y_26 := ea_6.trans ey_26.symm
    skip
    refine zw_V (As := [.int a_3, .int a_6]) (rest := [.int (-5)]) (wr := [(mki, .inl (cI, 8, .inl (fun _ => 0))), (mpa, .inl (cI, 8, .inl (fun _ => 0))), (mta, .inl (cI, 8, .inl (fun _ => 0))), (mla, .inl (cI, 40, .inl (fun _ => 0))), (msl, .inl (cI, 40, .inl (fun _ => 0))), (mco, .inl (cI, 3, .inl (zL3 5 10 50))), (mhe, .inl (cI, 8, .inl (fun _ => 0))), (mso, .inl (cI, 8, .inl (fun _ => 0))), (msi, .inl (cI, 8, .inl (fun _ => 0))), (msh, .inl (cI, 8, .inl (fun _ => 0))), (mce, .inl (cJ, 1280, .inr (.inl (fun _ => 0)))), (mca, .inl (cJ, 160, .inr (.inl (fun _ => 0)))), (mwo, .inl (cI, 64, .inl fw_)), (mnu, .inl (cI, 10, .inl fn_)), (mte, .inl (cI, 3, .inl (fun _ => 0))), (mwa, .inl (cI, 130, .inl (fun _ => 0))), (mke, .inl (cI, 130, .inl (fun _ => 0))), (mma, .inl (cI, 3, .inl (fun _ => 0))), (mth, .inl (cI, 3, .inl (fun _ => 0))), (mtr, .inl (cI, 20, .inl (fun _ => 0)))]) ⟨hx, hb, hml, hown, hts⟩ (c_M_pullOf l D cI cJ cZ cP cS m0 mrf mki mpa mta mla msl mco mhe mso msi msh mce mca mwo mnu mte mwa mke mma mth mtr (a_3) (a_6)  H.size) (cwV 2 hts gq_56 rfl rfl rfl (by decide +kernel) ⟨Nat.le_of_ble_eq_true rfl, Nat.le_of_ble_eq_true rfl⟩) hK hN (hZ.kept hS) hP hD hS hA [0, 1] [2, 3, 4, 5, 6, 7, 8, 9, 10, 11, 12, 13, 14, 15, 16, 17, 18, 19, 20, 21] rfl rfl (by decide) (by decide) (by decide) (va_recv hK hP (ci := 8) (q0 := 0) rfl rfl) rfl hl.1 rfl (Nat.le_of_ble_eq_true rfl) dL_law_570 ⟨Nat.le_of_ble_eq_true rfl, Nat.le_of_ble_eq_true rfl⟩ (fun r_27 u_28 H locs hr_27 hP hD hS => ?_)
    replace hP : va_P D vwCl [(mki, .inl (cI, 8, .inl (fun _ => 0))), (mpa, .inl (cI, 8, .inl (fun _ => 0))), (mta, .inl (cI, 8, .inl (fun _ => 0))), (mla, .inl (cI, 40, .inl (fun _ => 0))), (msl, .inl (cI, 40, .inl (fun _ => 0))), (mco, .inl (cI, 3, .inl (zL3 5 10 50))), (mhe, .inl (cI, 8, .inl (fun _ => 0))), (mso, .inl (cI, 8, .inl (fun _ => 0))), (msi, .inl (cI, 8, .inl (fun _ => 0))), (msh, .inl (cI, 8, .inl (fun _ => 0))), (mce, .inl (cJ, 1280, .inr (.inl (fun _ => 0)))), (mca, .inl (cJ, 160, .inr (.inl (fun _ => 0)))), (mwo, .inl (cI, 64, .inl fw_)), (mnu, .inl (cI, 10, .inl fn_)), (mte, .inl (cI, 3, .inl (fun _ => 0))), (mwa, .inl (cI, 130, .inl (fun _ => 0))), (mke, .inl (cI, 130, .inl (fun _ => 0))), (mma, .inl (cI, 3, .inl (fun _ => 0))), (mth, .inl (cI, 3, .inl (fun _ => 0))), (mtr, .inl (cI, 20, .inl (fun _ => 0)))] H := hP
    replace hD : va_D _ [(mki, .inl (cI, 8, .inl (fun _ => 0))), (mpa, .inl (cI, 8, .inl (fun _ => 0))), (mta, .inl (cI, 8, .inl (fun _ => 0))), (mla, .inl (cI, 40, .inl (fun _ => 0))), (msl, .inl (cI, 40, .inl (fun _ => 0))), (mco, .inl (cI, 3, .inl (zL3 5 10 50))), (mhe, .inl (cI, 8, .inl (fun _ => 0))), (mso, .inl (cI, 8, .inl (fun _ => 0))), (msi, .inl (cI, 8, .inl (fun _ => 0))), (msh, .inl (cI, 8, .inl (fun _ => 0))), (mce, .inl (cJ, 1280, .inr (.inl (fun _ => 0)))), (mca, .inl (cJ, 160, .inr (.inl (fun _ => 0)))), (mwo, .inl (cI, 64, .inl fw_)), (mnu, .inl (cI, 10, .inl fn_)), (mte, .inl (cI, 3, .inl (fun _ => 0))), (mwa, .inl (cI, 130, .inl (fun _ => 0))), (mke, .inl (cI, 130, .inl (fun _ => 0))), (mma, .inl (cI, 3, .inl (fun _ => 0))), (mth, .inl (cI, 3, .inl (fun _ => 0))), (mtr, .inl (cI, 20, .inl (fun _ => 0)))] := hD
    rcases hr_27 with ⟨rfl, g_29⟩ | ⟨rfl, g_30⟩
    · exfalso; omega
    · refine lv_icmp_eq (tgt := 1371) hx hb dL_law_573 (by decide) (fun c_31 => ?_) (fun c_31 => ?_)
      · refine lv_iinc (v := 6) (lv' := [(3, .int 6), (2, .ref m0), (1, .ref x0), (0, .ref b)]) hx hb dL_law_1371 hl (k := 0) rfl (by decide) (by decide) rfl (fun ls hl => ?_)
        refine lv_goto (tgt := 18) hx hb dL_law_1374 (by decide) ?_
        refine lv_iload_n hx hb dL_law_18 rfl (lv_at hl 0 rfl) ?_
        refine lv_aload_n hx hb dL_law_19 rfl (lv_at hl 3 rfl) ?_
        refine va_slen hx hb hX hbl hbA hS dL_law_20 ?_
        refine lv_topi (fun y_32 ey_32 => ?_)
        obtain rfl : y_32 = 6 := ey_32.trans (by decide)
        refine lv_bipush (v := 6) hx hb dL_law_21 (by decide) ?_
        refine lv_isub hx hb dL_law_23 ?_
        refine lv_topi (fun y_33 ey_33 => ?_)
        obtain rfl : y_33 = 0 := ey_33.trans (by decide)
        refine lv_icmp_gt (tgt := 1377) hx hb dL_law_24 (by decide) (fun c_34 => ?_) (fun c_34 => ?_)
        · refine lv_iconst (v := 1) hx hb dL_law_1377 (by decide) ?_
          refine va_forget (fun q hq => hS.2.2 q hq) ?_
          refine W.widen (k := 600000) (n := 7302250) (Nat.le_of_ble_eq_true rfl) (Nat.le_of_ble_eq_true rfl) ?_
          exact lw_ret hx hb hr hlocks dL_law_1378
        · exact absurd c_34 (by decide)
      · exact absurd c_31 (by decide)
set_option maxHeartbeats 8000000 in
set_option maxRecDepth 100000 in
theorem law_case_9 {p : Program} {l : Launch} {e : Env} {s : State} {m : MethodId} {below : List Frame} {meth : Method} {c : Code} {D : va_G} {cI cJ cZ cP cS : ClassId} {b : Nat} {xs_ : Nat → Int32} (x0 xs j0 k0 w0 rd mv xr z0 jp jc zl zs kz kp kc kzl kzs wk wl wc wp ri rl mb m0 mrf mki mpa mta mla msl mco mhe mso msi msh mce mca mwo mnu mte mwa mke mma mth mtr : Nat) (sh el : Nat → Nat) (fw_ fn_ : Nat → Int32) (C0 : lw_At p s m meth c b 6 xs_) (hK : va_K D vwCl (zKT cI cJ cZ cP cS) s) (hN : zN s) (hZ : zSt (fun q : Nat => s.heap.size ≤ q) s s.heap) (H : Heap) (locs : List Loc) (hP : va_P D vwCl (zLW cI cJ cZ cP cS x0 xs j0 k0 w0 rd mv xr z0 jp jc zl zs kz kp kc kzl kzs wk wl wc wp ri rl mb m0 mrf mki mpa mta mla msl mco mhe mso msi msh mce mca mwo mnu mte mwa mke mma mth mtr sh el fw_ fn_) H) (hD : va_D (fun q : Nat => s.heap.size ≤ q) (zLW cI cJ cZ cP cS x0 xs j0 k0 w0 rd mv xr z0 jp jc zl zs kz kp kc kzl kzs wk wl wc wp ri rl mb m0 mrf mki mpa mta mla msl mco mhe mso msi msh mce mca mwo mnu mte mwa mke mma mth mtr sh el fw_ fn_)) (hS : va_S (fun q : Nat => s.heap.size ≤ q) s.heap H locs) (ls : Array Slot) (hl : lv_has ls 4 [(3, .int 0), (2, .ref m0), (1, .ref x0), (0, .ref b)]) : W p l e room_1 s m #[Value.ref b] below meth c H locs 100 10000 (lw_Z below #[Value.ref b] s) (F0 m 578 ls []) := by
  obtain ⟨hx, hb, hr, hml, hown0, hts, hX, hbl, hlocks, hgv⟩ := id C0
  have hown : s.vm.findClass RL = some m.cls := hown0
  have hA : ∀ q : Nat, s.heap.size ≤ q → (fun q : Nat => s.heap.size ≤ q) q := fun _ h => h
  have hbA : ¬ (fun q : Nat => s.heap.size ≤ q) b := Nat.not_le.mpr hbl
  replace hP : va_P D vwCl ((x0, .inr (7, [.ref xs, .ref j0, .ref k0, .ref w0, .ref rd, .ref mv, .ref xr, .int 0, .int (-1)])) :: (xs, .inl (cS, 8, .inr (.inr (.inr (.inr (zS sh)))))) :: (j0, .inr (0, [.ref z0, .ref jp, .ref jc, .int 0, .int 0, .int 0, .int 60, .int 0, .int 1])) :: (z0, .inr (6, [.ref zl, .ref zs, .int 20, .int 0, .int 3])) :: (zl, .inl (cZ, 40, .inl (fun _ => 0))) :: (zs, .inl (cI, 40, .inl (fun _ => 0))) :: (jp, .inl (cP, 8, .inr (.inr (.inr (.inr (fun _ => none)))))) :: (jc, .inl (cI, 3, .inl (zL3 5 10 50))) :: (k0, .inr (0, [.ref kz, .ref kp, .ref kc, .int 0, .int 0, .int 0, .int 60, .int 0, .int 1])) :: (kz, .inr (6, [.ref kzl, .ref kzs, .int 20, .int 0, .int 3])) :: (kzl, .inl (cZ, 40, .inl (fun _ => 0))) :: (kzs, .inl (cI, 40, .inl (fun _ => 0))) :: (kp, .inl (cP, 8, .inr (.inr (.inr (.inr (fun _ => none)))))) :: (kc, .inl (cI, 3, .inl (zL3 5 10 50))) :: (w0, .inr (5, [.ref wk, .ref wl, .ref wc, .ref wp, .int 0, .int 0, .int 0])) :: (wk, .inl (cI, 125, .inl (fun _ => 0))) :: (wl, .inl (cI, 125, .inl (fun _ => 0))) :: (wc, .inl (cI, 3, .inl (fun _ => 0))) :: (wp, .inl (cP, 8, .inr (.inr (.inr (.inr (fun _ => none)))))) :: (rd, .inr (3, [.ref ri, .ref rl, .int 0, .int 0, .int 0, .int (-1), .int 0, .int 0])) :: (ri, .inl (cI, 132, .inl (fun _ => 0))) :: (rl, .inl (cI, 160, .inl (fun _ => 0))) :: (mv, .inr (1, [.ref mb, .int 0, .int 0, .int 0, .int 0])) :: (mb, .inl (cI, 20, .inl (fun _ => 0))) :: (xr, .inl (cI, 8, .inl (fun _ => 0))) :: ((sh 0), .inr (4, [.ref (el 0), .int (-1), .int 0])) :: ((el 0), .inl (cJ, 160, .inr (.inl (fun _ => 0)))) :: ((sh 1), .inr (4, [.ref (el 1), .int (-1), .int 0])) :: ((el 1), .inl (cJ, 160, .inr (.inl (fun _ => 0)))) :: ((sh 2), .inr (4, [.ref (el 2), .int (-1), .int 0])) :: ((el 2), .inl (cJ, 160, .inr (.inl (fun _ => 0)))) :: ((sh 3), .inr (4, [.ref (el 3), .int (-1), .int 0])) :: ((el 3), .inl (cJ, 160, .inr (.inl (fun _ => 0)))) :: ((sh 4), .inr (4, [.ref (el 4), .int (-1), .int 0])) :: ((el 4), .inl (cJ, 160, .inr (.inl (fun _ => 0)))) :: ((sh 5), .inr (4, [.ref (el 5), .int (-1), .int 0])) :: ((el 5), .inl (cJ, 160, .inr (.inl (fun _ => 0)))) :: ((sh 6), .inr (4, [.ref (el 6), .int (-1), .int 0])) :: ((el 6), .inl (cJ, 160, .inr (.inl (fun _ => 0)))) :: ((sh 7), .inr (4, [.ref (el 7), .int (-1), .int 0])) :: ((el 7), .inl (cJ, 160, .inr (.inl (fun _ => 0)))) :: (m0, .inr (8, (.int 0 :: .int 20 :: .int 0 :: .int 0 :: .int 0 :: .int 60 :: .int 0 :: .int 3 :: .int 1 :: .int (-1) :: .ref mrf :: .ref mki :: .ref mpa :: .ref mta :: .ref mla :: .ref msl :: .ref mco :: .ref mhe :: .ref mso :: .ref msi :: .ref msh :: .ref mce :: .ref mca :: .ref mwo :: .ref mnu :: .ref mte :: .int 0 :: .int 0 :: .int 0 :: .int 0 :: .int 0 :: .ref mwa :: .ref mke :: .ref mma :: .ref mth :: .ref mtr :: .int 0 :: .int 0 :: []))) :: (mrf, .inl (cI, 8, .inl (fun _ => 0))) :: (mki, .inl (cI, 8, .inl (fun _ => 0))) :: (mpa, .inl (cI, 8, .inl (fun _ => 0))) :: (mta, .inl (cI, 8, .inl (fun _ => 0))) :: (mla, .inl (cI, 40, .inl (fun _ => 0))) :: (msl, .inl (cI, 40, .inl (fun _ => 0))) :: (mco, .inl (cI, 3, .inl (zL3 5 10 50))) :: (mhe, .inl (cI, 8, .inl (fun _ => 0))) :: (mso, .inl (cI, 8, .inl (fun _ => 0))) :: (msi, .inl (cI, 8, .inl (fun _ => 0))) :: (msh, .inl (cI, 8, .inl (fun _ => 0))) :: (mce, .inl (cJ, 1280, .inr (.inl (fun _ => 0)))) :: (mca, .inl (cJ, 160, .inr (.inl (fun _ => 0)))) :: (mwo, .inl (cI, 64, .inl fw_)) :: (mnu, .inl (cI, 10, .inl fn_)) :: (mte, .inl (cI, 3, .inl (fun _ => 0))) :: (mwa, .inl (cI, 130, .inl (fun _ => 0))) :: (mke, .inl (cI, 130, .inl (fun _ => 0))) :: (mma, .inl (cI, 3, .inl (fun _ => 0))) :: (mth, .inl (cI, 3, .inl (fun _ => 0))) :: (mtr, .inl (cI, 20, .inl (fun _ => 0))) :: []) H := hP
  replace hD : va_D _ ((x0, .inr (7, [.ref xs, .ref j0, .ref k0, .ref w0, .ref rd, .ref mv, .ref xr, .int 0, .int (-1)])) :: (xs, .inl (cS, 8, .inr (.inr (.inr (.inr (zS sh)))))) :: (j0, .inr (0, [.ref z0, .ref jp, .ref jc, .int 0, .int 0, .int 0, .int 60, .int 0, .int 1])) :: (z0, .inr (6, [.ref zl, .ref zs, .int 20, .int 0, .int 3])) :: (zl, .inl (cZ, 40, .inl (fun _ => 0))) :: (zs, .inl (cI, 40, .inl (fun _ => 0))) :: (jp, .inl (cP, 8, .inr (.inr (.inr (.inr (fun _ => none)))))) :: (jc, .inl (cI, 3, .inl (zL3 5 10 50))) :: (k0, .inr (0, [.ref kz, .ref kp, .ref kc, .int 0, .int 0, .int 0, .int 60, .int 0, .int 1])) :: (kz, .inr (6, [.ref kzl, .ref kzs, .int 20, .int 0, .int 3])) :: (kzl, .inl (cZ, 40, .inl (fun _ => 0))) :: (kzs, .inl (cI, 40, .inl (fun _ => 0))) :: (kp, .inl (cP, 8, .inr (.inr (.inr (.inr (fun _ => none)))))) :: (kc, .inl (cI, 3, .inl (zL3 5 10 50))) :: (w0, .inr (5, [.ref wk, .ref wl, .ref wc, .ref wp, .int 0, .int 0, .int 0])) :: (wk, .inl (cI, 125, .inl (fun _ => 0))) :: (wl, .inl (cI, 125, .inl (fun _ => 0))) :: (wc, .inl (cI, 3, .inl (fun _ => 0))) :: (wp, .inl (cP, 8, .inr (.inr (.inr (.inr (fun _ => none)))))) :: (rd, .inr (3, [.ref ri, .ref rl, .int 0, .int 0, .int 0, .int (-1), .int 0, .int 0])) :: (ri, .inl (cI, 132, .inl (fun _ => 0))) :: (rl, .inl (cI, 160, .inl (fun _ => 0))) :: (mv, .inr (1, [.ref mb, .int 0, .int 0, .int 0, .int 0])) :: (mb, .inl (cI, 20, .inl (fun _ => 0))) :: (xr, .inl (cI, 8, .inl (fun _ => 0))) :: ((sh 0), .inr (4, [.ref (el 0), .int (-1), .int 0])) :: ((el 0), .inl (cJ, 160, .inr (.inl (fun _ => 0)))) :: ((sh 1), .inr (4, [.ref (el 1), .int (-1), .int 0])) :: ((el 1), .inl (cJ, 160, .inr (.inl (fun _ => 0)))) :: ((sh 2), .inr (4, [.ref (el 2), .int (-1), .int 0])) :: ((el 2), .inl (cJ, 160, .inr (.inl (fun _ => 0)))) :: ((sh 3), .inr (4, [.ref (el 3), .int (-1), .int 0])) :: ((el 3), .inl (cJ, 160, .inr (.inl (fun _ => 0)))) :: ((sh 4), .inr (4, [.ref (el 4), .int (-1), .int 0])) :: ((el 4), .inl (cJ, 160, .inr (.inl (fun _ => 0)))) :: ((sh 5), .inr (4, [.ref (el 5), .int (-1), .int 0])) :: ((el 5), .inl (cJ, 160, .inr (.inl (fun _ => 0)))) :: ((sh 6), .inr (4, [.ref (el 6), .int (-1), .int 0])) :: ((el 6), .inl (cJ, 160, .inr (.inl (fun _ => 0)))) :: ((sh 7), .inr (4, [.ref (el 7), .int (-1), .int 0])) :: ((el 7), .inl (cJ, 160, .inr (.inl (fun _ => 0)))) :: (m0, .inr (8, (.int 0 :: .int 20 :: .int 0 :: .int 0 :: .int 0 :: .int 60 :: .int 0 :: .int 3 :: .int 1 :: .int (-1) :: .ref mrf :: .ref mki :: .ref mpa :: .ref mta :: .ref mla :: .ref msl :: .ref mco :: .ref mhe :: .ref mso :: .ref msi :: .ref msh :: .ref mce :: .ref mca :: .ref mwo :: .ref mnu :: .ref mte :: .int 0 :: .int 0 :: .int 0 :: .int 0 :: .int 0 :: .ref mwa :: .ref mke :: .ref mma :: .ref mth :: .ref mtr :: .int 0 :: .int 0 :: []))) :: (mrf, .inl (cI, 8, .inl (fun _ => 0))) :: (mki, .inl (cI, 8, .inl (fun _ => 0))) :: (mpa, .inl (cI, 8, .inl (fun _ => 0))) :: (mta, .inl (cI, 8, .inl (fun _ => 0))) :: (mla, .inl (cI, 40, .inl (fun _ => 0))) :: (msl, .inl (cI, 40, .inl (fun _ => 0))) :: (mco, .inl (cI, 3, .inl (zL3 5 10 50))) :: (mhe, .inl (cI, 8, .inl (fun _ => 0))) :: (mso, .inl (cI, 8, .inl (fun _ => 0))) :: (msi, .inl (cI, 8, .inl (fun _ => 0))) :: (msh, .inl (cI, 8, .inl (fun _ => 0))) :: (mce, .inl (cJ, 1280, .inr (.inl (fun _ => 0)))) :: (mca, .inl (cJ, 160, .inr (.inl (fun _ => 0)))) :: (mwo, .inl (cI, 64, .inl fw_)) :: (mnu, .inl (cI, 10, .inl fn_)) :: (mte, .inl (cI, 3, .inl (fun _ => 0))) :: (mwa, .inl (cI, 130, .inl (fun _ => 0))) :: (mke, .inl (cI, 130, .inl (fun _ => 0))) :: (mma, .inl (cI, 3, .inl (fun _ => 0))) :: (mth, .inl (cI, 3, .inl (fun _ => 0))) :: (mtr, .inl (cI, 20, .inl (fun _ => 0))) :: []) := hD
  refine lv_aload_n hx hb dL_law_578 rfl (lv_at hl 2 rfl) ?_
  refine lv_aload_n hx hb dL_law_579 rfl (lv_at hl 3 rfl) ?_
  refine lv_iload_n hx hb dL_law_580 rfl (lv_at hl 0 rfl) ?_
  refine lv_iconst (v := 1) hx hb dL_law_581 (by decide) ?_
  refine lv_iadd hx hb dL_law_582 ?_
  refine lv_topi (fun y_1 ey_1 => ?_)
  obtain rfl : y_1 = 1 := ey_1.trans (by decide)
  refine va_sld hx hb hX hbl hbA hS (zf_in (by decide) (by decide)) dL_law_583 ?_
  refine lv_topi (fun a_3 ea_3 => ?_)
  skip
  refine zw_V (As := [.int a_3]) (rest := []) (wr := ((m0, .inr (8, (.int 0 :: .int 20 :: .int 0 :: .int 0 :: .int 0 :: .int 60 :: .int 0 :: .int 3 :: .int 1 :: .int (-1) :: .ref mrf :: .ref mki :: .ref mpa :: .ref mta :: .ref mla :: .ref msl :: .ref mco :: .ref mhe :: .ref mso :: .ref msi :: .ref msh :: .ref mce :: .ref mca :: .ref mwo :: .ref mnu :: .ref mte :: .int 0 :: .int 0 :: .int 0 :: .int 0 :: .int 0 :: .ref mwa :: .ref mke :: .ref mma :: .ref mth :: .ref mtr :: .int 0 :: .int 0 :: []))) :: (mrf, .inl (cI, 8, .inl (fun _ => 0))) :: (mki, .inl (cI, 8, .inl (fun _ => 0))) :: (mpa, .inl (cI, 8, .inl (fun _ => 0))) :: (mta, .inl (cI, 8, .inl (fun _ => 0))) :: (mla, .inl (cI, 40, .inl (fun _ => 0))) :: (msl, .inl (cI, 40, .inl (fun _ => 0))) :: (mco, .inl (cI, 3, .inl (zL3 5 10 50))) :: (mhe, .inl (cI, 8, .inl (fun _ => 0))) :: (mso, .inl (cI, 8, .inl (fun _ => 0))) :: (msi, .inl (cI, 8, .inl (fun _ => 0))) :: (msh, .inl (cI, 8, .inl (fun _ => 0))) :: (mce, .inl (cJ, 1280, .inr (.inl (fun _ => 0)))) :: (mca, .inl (cJ, 160, .inr (.inl (fun _ => 0)))) :: (mwo, .inl (cI, 64, .inl fw_)) :: (mnu, .inl (cI, 10, .inl fn_)) :: (mte, .inl (cI, 3, .inl (fun _ => 0))) :: (mwa, .inl (cI, 130, .inl (fun _ => 0))) :: (mke, .inl (cI, 130, .inl (fun _ => 0))) :: (mma, .inl (cI, 3, .inl (fun _ => 0))) :: (mth, .inl (cI, 3, .inl (fun _ => 0))) :: (mtr, .inl (cI, 20, .inl (fun _ => 0))) :: [])) ⟨hx, hb, hml, hown, hts⟩ (c_teeth l D cI cJ cZ cP cS x0 xs j0 k0 w0 rd mv xr jp jc z0 zl zs (a_3)  H.size) (cwV 1 hts gq_57 rfl rfl rfl (by decide +kernel) ⟨Nat.le_of_ble_eq_true rfl, Nat.le_of_ble_eq_true rfl⟩) hK hN (hZ.kept hS) hP hD hS hA [0, 24, 2, 3, 4, 5] [41, 42, 43, 44, 45, 46, 47, 48, 49, 50, 51, 52, 53, 54, 55, 56, 57, 58, 59, 60, 61, 62] rfl rfl (by decide) (by decide) (by decide) (va_recv hK hP (ci := 7) (q0 := 0) rfl rfl) rfl hl.1 rfl (Nat.le_of_ble_eq_true rfl) dL_law_584 ⟨Nat.le_of_ble_eq_true rfl, Nat.le_of_ble_eq_true rfl⟩ (fun r_4 u_5 H locs hr_4 hP hD hS => ?_)
  replace hP : va_P D vwCl ((m0, .inr (8, (.int 0 :: .int 20 :: .int 0 :: .int 0 :: .int 0 :: .int 60 :: .int 0 :: .int 3 :: .int 1 :: .int (-1) :: .ref mrf :: .ref mki :: .ref mpa :: .ref mta :: .ref mla :: .ref msl :: .ref mco :: .ref mhe :: .ref mso :: .ref msi :: .ref msh :: .ref mce :: .ref mca :: .ref mwo :: .ref mnu :: .ref mte :: .int 0 :: .int 0 :: .int 0 :: .int 0 :: .int 0 :: .ref mwa :: .ref mke :: .ref mma :: .ref mth :: .ref mtr :: .int 0 :: .int 0 :: []))) :: (mrf, .inl (cI, 8, .inl (fun _ => 0))) :: (mki, .inl (cI, 8, .inl (fun _ => 0))) :: (mpa, .inl (cI, 8, .inl (fun _ => 0))) :: (mta, .inl (cI, 8, .inl (fun _ => 0))) :: (mla, .inl (cI, 40, .inl (fun _ => 0))) :: (msl, .inl (cI, 40, .inl (fun _ => 0))) :: (mco, .inl (cI, 3, .inl (zL3 5 10 50))) :: (mhe, .inl (cI, 8, .inl (fun _ => 0))) :: (mso, .inl (cI, 8, .inl (fun _ => 0))) :: (msi, .inl (cI, 8, .inl (fun _ => 0))) :: (msh, .inl (cI, 8, .inl (fun _ => 0))) :: (mce, .inl (cJ, 1280, .inr (.inl (fun _ => 0)))) :: (mca, .inl (cJ, 160, .inr (.inl (fun _ => 0)))) :: (mwo, .inl (cI, 64, .inl fw_)) :: (mnu, .inl (cI, 10, .inl fn_)) :: (mte, .inl (cI, 3, .inl (fun _ => 0))) :: (mwa, .inl (cI, 130, .inl (fun _ => 0))) :: (mke, .inl (cI, 130, .inl (fun _ => 0))) :: (mma, .inl (cI, 3, .inl (fun _ => 0))) :: (mth, .inl (cI, 3, .inl (fun _ => 0))) :: (mtr, .inl (cI, 20, .inl (fun _ => 0))) :: []) H := hP
  replace hD : va_D _ ((m0, .inr (8, (.int 0 :: .int 20 :: .int 0 :: .int 0 :: .int 0 :: .int 60 :: .int 0 :: .int 3 :: .int 1 :: .int (-1) :: .ref mrf :: .ref mki :: .ref mpa :: .ref mta :: .ref mla :: .ref msl :: .ref mco :: .ref mhe :: .ref mso :: .ref msi :: .ref msh :: .ref mce :: .ref mca :: .ref mwo :: .ref mnu :: .ref mte :: .int 0 :: .int 0 :: .int 0 :: .int 0 :: .int 0 :: .ref mwa :: .ref mke :: .ref mma :: .ref mth :: .ref mtr :: .int 0 :: .int 0 :: []))) :: (mrf, .inl (cI, 8, .inl (fun _ => 0))) :: (mki, .inl (cI, 8, .inl (fun _ => 0))) :: (mpa, .inl (cI, 8, .inl (fun _ => 0))) :: (mta, .inl (cI, 8, .inl (fun _ => 0))) :: (mla, .inl (cI, 40, .inl (fun _ => 0))) :: (msl, .inl (cI, 40, .inl (fun _ => 0))) :: (mco, .inl (cI, 3, .inl (zL3 5 10 50))) :: (mhe, .inl (cI, 8, .inl (fun _ => 0))) :: (mso, .inl (cI, 8, .inl (fun _ => 0))) :: (msi, .inl (cI, 8, .inl (fun _ => 0))) :: (msh, .inl (cI, 8, .inl (fun _ => 0))) :: (mce, .inl (cJ, 1280, .inr (.inl (fun _ => 0)))) :: (mca, .inl (cJ, 160, .inr (.inl (fun _ => 0)))) :: (mwo, .inl (cI, 64, .inl fw_)) :: (mnu, .inl (cI, 10, .inl fn_)) :: (mte, .inl (cI, 3, .inl (fun _ => 0))) :: (mwa, .inl (cI, 130, .inl (fun _ => 0))) :: (mke, .inl (cI, 130, .inl (fun _ => 0))) :: (mma, .inl (cI, 3, .inl (fun _ => 0))) :: (mth, .inl (cI, 3, .inl (fun _ => 0))) :: (mtr, .inl (cI, 20, .inl (fun _ => 0))) :: []) := hD
  rcases hr_4 with ⟨rfl, g_6⟩ | ⟨rfl, g_7, g_8⟩ | ⟨rfl, g_9, g_10⟩
  · refine lv_aload_n hx hb dL_law_587 rfl (lv_at hl 1 rfl) ?_
    refine lv_aload_n hx hb dL_law_588 rfl (lv_at hl 3 rfl) ?_
    refine lv_iload_n hx hb dL_law_589 rfl (lv_at hl 0 rfl) ?_
    refine lv_iconst (v := 1) hx hb dL_law_590 (by decide) ?_
    refine lv_iadd hx hb dL_law_591 ?_
    refine lv_topi (fun y_11 ey_11 => ?_)
    obtain rfl : y_11 = 1 := ey_11.trans (by decide)
    refine va_sld hx hb hX hbl hbA hS (zf_in (by decide) (by decide)) dL_law_592 ?_
    refine lv_topi (fun y_12 ey_12 => ?_)
    obtain rfl : a_3 = y_12 := ea_3.trans ey_12.symm
    skip
    refine zw_V (As := [.int a_3]) (rest := [.int (-6)]) (wr := [(mki, .inl (cI, 8, .inl (fun _ => 0))), (mpa, .inl (cI, 8, .inl (fun _ => 0))), (mta, .inl (cI, 8, .inl (fun _ => 0))), (mco, .inl (cI, 3, .inl (zL3 5 10 50))), (mhe, .inl (cI, 8, .inl (fun _ => 0))), (mso, .inl (cI, 8, .inl (fun _ => 0))), (msi, .inl (cI, 8, .inl (fun _ => 0))), (msh, .inl (cI, 8, .inl (fun _ => 0))), (mce, .inl (cJ, 1280, .inr (.inl (fun _ => 0)))), (mca, .inl (cJ, 160, .inr (.inl (fun _ => 0)))), (mwo, .inl (cI, 64, .inl fw_)), (mnu, .inl (cI, 10, .inl fn_)), (mte, .inl (cI, 3, .inl (fun _ => 0))), (mwa, .inl (cI, 130, .inl (fun _ => 0))), (mke, .inl (cI, 130, .inl (fun _ => 0))), (mma, .inl (cI, 3, .inl (fun _ => 0))), (mth, .inl (cI, 3, .inl (fun _ => 0))), (mtr, .inl (cI, 20, .inl (fun _ => 0)))]) ⟨hx, hb, hml, hown, hts⟩ (c_M_teeth l D cI cJ cZ cP cS m0 mrf mki mpa mta mla msl mco mhe mso msi msh mce mca mwo mnu mte mwa mke mma mth mtr (a_3)  H.size) (cwV 1 hts gq_60 rfl rfl rfl (by decide +kernel) ⟨Nat.le_of_ble_eq_true rfl, Nat.le_of_ble_eq_true rfl⟩) hK hN (hZ.kept hS) hP hD hS hA [0, 1, 5, 6] [2, 3, 4, 7, 8, 9, 10, 11, 12, 13, 14, 15, 16, 17, 18, 19, 20, 21] rfl rfl (by decide) (by decide) (by decide) (va_recv hK hP (ci := 8) (q0 := 0) rfl rfl) rfl hl.1 rfl (Nat.le_of_ble_eq_true rfl) dL_law_593 ⟨Nat.le_of_ble_eq_true rfl, Nat.le_of_ble_eq_true rfl⟩ (fun r_13 u_14 H locs hr_13 hP hD hS => ?_)
    replace hP : va_P D vwCl [(mki, .inl (cI, 8, .inl (fun _ => 0))), (mpa, .inl (cI, 8, .inl (fun _ => 0))), (mta, .inl (cI, 8, .inl (fun _ => 0))), (mco, .inl (cI, 3, .inl (zL3 5 10 50))), (mhe, .inl (cI, 8, .inl (fun _ => 0))), (mso, .inl (cI, 8, .inl (fun _ => 0))), (msi, .inl (cI, 8, .inl (fun _ => 0))), (msh, .inl (cI, 8, .inl (fun _ => 0))), (mce, .inl (cJ, 1280, .inr (.inl (fun _ => 0)))), (mca, .inl (cJ, 160, .inr (.inl (fun _ => 0)))), (mwo, .inl (cI, 64, .inl fw_)), (mnu, .inl (cI, 10, .inl fn_)), (mte, .inl (cI, 3, .inl (fun _ => 0))), (mwa, .inl (cI, 130, .inl (fun _ => 0))), (mke, .inl (cI, 130, .inl (fun _ => 0))), (mma, .inl (cI, 3, .inl (fun _ => 0))), (mth, .inl (cI, 3, .inl (fun _ => 0))), (mtr, .inl (cI, 20, .inl (fun _ => 0)))] H := hP
    replace hD : va_D _ [(mki, .inl (cI, 8, .inl (fun _ => 0))), (mpa, .inl (cI, 8, .inl (fun _ => 0))), (mta, .inl (cI, 8, .inl (fun _ => 0))), (mco, .inl (cI, 3, .inl (zL3 5 10 50))), (mhe, .inl (cI, 8, .inl (fun _ => 0))), (mso, .inl (cI, 8, .inl (fun _ => 0))), (msi, .inl (cI, 8, .inl (fun _ => 0))), (msh, .inl (cI, 8, .inl (fun _ => 0))), (mce, .inl (cJ, 1280, .inr (.inl (fun _ => 0)))), (mca, .inl (cJ, 160, .inr (.inl (fun _ => 0)))), (mwo, .inl (cI, 64, .inl fw_)), (mnu, .inl (cI, 10, .inl fn_)), (mte, .inl (cI, 3, .inl (fun _ => 0))), (mwa, .inl (cI, 130, .inl (fun _ => 0))), (mke, .inl (cI, 130, .inl (fun _ => 0))), (mma, .inl (cI, 3, .inl (fun _ => 0))), (mth, .inl (cI, 3, .inl (fun _ => 0))), (mtr, .inl (cI, 20, .inl (fun _ => 0)))] := hD
    rcases hr_13 with ⟨rfl, g_15⟩ | ⟨rfl, g_16, g_17⟩ | ⟨rfl, g_18, g_19⟩
    · refine lv_icmp_eq (tgt := 1371) hx hb dL_law_596 (by decide) (fun c_20 => ?_) (fun c_20 => ?_)
      · refine lv_iinc (v := 6) (lv' := [(3, .int 6), (2, .ref m0), (1, .ref x0), (0, .ref b)]) hx hb dL_law_1371 hl (k := 0) rfl (by decide) (by decide) rfl (fun ls hl => ?_)
        refine lv_goto (tgt := 18) hx hb dL_law_1374 (by decide) ?_
        refine lv_iload_n hx hb dL_law_18 rfl (lv_at hl 0 rfl) ?_
        refine lv_aload_n hx hb dL_law_19 rfl (lv_at hl 3 rfl) ?_
        refine va_slen hx hb hX hbl hbA hS dL_law_20 ?_
        refine lv_topi (fun y_21 ey_21 => ?_)
        obtain rfl : y_21 = 6 := ey_21.trans (by decide)
        refine lv_bipush (v := 6) hx hb dL_law_21 (by decide) ?_
        refine lv_isub hx hb dL_law_23 ?_
        refine lv_topi (fun y_22 ey_22 => ?_)
        obtain rfl : y_22 = 0 := ey_22.trans (by decide)
        refine lv_icmp_gt (tgt := 1377) hx hb dL_law_24 (by decide) (fun c_23 => ?_) (fun c_23 => ?_)
        · refine lv_iconst (v := 1) hx hb dL_law_1377 (by decide) ?_
          refine va_forget (fun q hq => hS.2.2 q hq) ?_
          refine W.widen (k := 600000) (n := 7302250) (Nat.le_of_ble_eq_true rfl) (Nat.le_of_ble_eq_true rfl) ?_
          exact lw_ret hx hb hr hlocks dL_law_1378
        · exact absurd c_23 (by decide)
      · exact absurd c_20 (by decide)
    · exfalso; omega
    · exfalso; omega
  · refine lv_aload_n hx hb dL_law_587 rfl (lv_at hl 1 rfl) ?_
    refine lv_aload_n hx hb dL_law_588 rfl (lv_at hl 3 rfl) ?_
    refine lv_iload_n hx hb dL_law_589 rfl (lv_at hl 0 rfl) ?_
    refine lv_iconst (v := 1) hx hb dL_law_590 (by decide) ?_
    refine lv_iadd hx hb dL_law_591 ?_
    refine lv_topi (fun y_24 ey_24 => ?_)
    obtain rfl : y_24 = 1 := ey_24.trans (by decide)
    refine va_sld hx hb hX hbl hbA hS (zf_in (by decide) (by decide)) dL_law_592 ?_
    refine lv_topi (fun y_25 ey_25 => ?_)
    obtain rfl : a_3 = y_25 := ea_3.trans ey_25.symm
    skip
    refine zw_V (As := [.int a_3]) (rest := [.int (-6)]) (wr := [(mki, .inl (cI, 8, .inl (fun _ => 0))), (mpa, .inl (cI, 8, .inl (fun _ => 0))), (mta, .inl (cI, 8, .inl (fun _ => 0))), (mco, .inl (cI, 3, .inl (zL3 5 10 50))), (mhe, .inl (cI, 8, .inl (fun _ => 0))), (mso, .inl (cI, 8, .inl (fun _ => 0))), (msi, .inl (cI, 8, .inl (fun _ => 0))), (msh, .inl (cI, 8, .inl (fun _ => 0))), (mce, .inl (cJ, 1280, .inr (.inl (fun _ => 0)))), (mca, .inl (cJ, 160, .inr (.inl (fun _ => 0)))), (mwo, .inl (cI, 64, .inl fw_)), (mnu, .inl (cI, 10, .inl fn_)), (mte, .inl (cI, 3, .inl (fun _ => 0))), (mwa, .inl (cI, 130, .inl (fun _ => 0))), (mke, .inl (cI, 130, .inl (fun _ => 0))), (mma, .inl (cI, 3, .inl (fun _ => 0))), (mth, .inl (cI, 3, .inl (fun _ => 0))), (mtr, .inl (cI, 20, .inl (fun _ => 0)))]) ⟨hx, hb, hml, hown, hts⟩ (c_M_teeth l D cI cJ cZ cP cS m0 mrf mki mpa mta mla msl mco mhe mso msi msh mce mca mwo mnu mte mwa mke mma mth mtr (a_3)  H.size) (cwV 1 hts gq_60 rfl rfl rfl (by decide +kernel) ⟨Nat.le_of_ble_eq_true rfl, Nat.le_of_ble_eq_true rfl⟩) hK hN (hZ.kept hS) hP hD hS hA [0, 1, 5, 6] [2, 3, 4, 7, 8, 9, 10, 11, 12, 13, 14, 15, 16, 17, 18, 19, 20, 21] rfl rfl (by decide) (by decide) (by decide) (va_recv hK hP (ci := 8) (q0 := 0) rfl rfl) rfl hl.1 rfl (Nat.le_of_ble_eq_true rfl) dL_law_593 ⟨Nat.le_of_ble_eq_true rfl, Nat.le_of_ble_eq_true rfl⟩ (fun r_26 u_27 H locs hr_26 hP hD hS => ?_)
    replace hP : va_P D vwCl [(mki, .inl (cI, 8, .inl (fun _ => 0))), (mpa, .inl (cI, 8, .inl (fun _ => 0))), (mta, .inl (cI, 8, .inl (fun _ => 0))), (mco, .inl (cI, 3, .inl (zL3 5 10 50))), (mhe, .inl (cI, 8, .inl (fun _ => 0))), (mso, .inl (cI, 8, .inl (fun _ => 0))), (msi, .inl (cI, 8, .inl (fun _ => 0))), (msh, .inl (cI, 8, .inl (fun _ => 0))), (mce, .inl (cJ, 1280, .inr (.inl (fun _ => 0)))), (mca, .inl (cJ, 160, .inr (.inl (fun _ => 0)))), (mwo, .inl (cI, 64, .inl fw_)), (mnu, .inl (cI, 10, .inl fn_)), (mte, .inl (cI, 3, .inl (fun _ => 0))), (mwa, .inl (cI, 130, .inl (fun _ => 0))), (mke, .inl (cI, 130, .inl (fun _ => 0))), (mma, .inl (cI, 3, .inl (fun _ => 0))), (mth, .inl (cI, 3, .inl (fun _ => 0))), (mtr, .inl (cI, 20, .inl (fun _ => 0)))] H := hP
    replace hD : va_D _ [(mki, .inl (cI, 8, .inl (fun _ => 0))), (mpa, .inl (cI, 8, .inl (fun _ => 0))), (mta, .inl (cI, 8, .inl (fun _ => 0))), (mco, .inl (cI, 3, .inl (zL3 5 10 50))), (mhe, .inl (cI, 8, .inl (fun _ => 0))), (mso, .inl (cI, 8, .inl (fun _ => 0))), (msi, .inl (cI, 8, .inl (fun _ => 0))), (msh, .inl (cI, 8, .inl (fun _ => 0))), (mce, .inl (cJ, 1280, .inr (.inl (fun _ => 0)))), (mca, .inl (cJ, 160, .inr (.inl (fun _ => 0)))), (mwo, .inl (cI, 64, .inl fw_)), (mnu, .inl (cI, 10, .inl fn_)), (mte, .inl (cI, 3, .inl (fun _ => 0))), (mwa, .inl (cI, 130, .inl (fun _ => 0))), (mke, .inl (cI, 130, .inl (fun _ => 0))), (mma, .inl (cI, 3, .inl (fun _ => 0))), (mth, .inl (cI, 3, .inl (fun _ => 0))), (mtr, .inl (cI, 20, .inl (fun _ => 0)))] := hD
    rcases hr_26 with ⟨rfl, g_28⟩ | ⟨rfl, g_29, g_30⟩ | ⟨rfl, g_31, g_32⟩
    · exfalso; omega
    · exfalso; omega
    · refine lv_icmp_eq (tgt := 1371) hx hb dL_law_596 (by decide) (fun c_33 => ?_) (fun c_33 => ?_)
      · refine lv_iinc (v := 6) (lv' := [(3, .int 6), (2, .ref m0), (1, .ref x0), (0, .ref b)]) hx hb dL_law_1371 hl (k := 0) rfl (by decide) (by decide) rfl (fun ls hl => ?_)
        refine lv_goto (tgt := 18) hx hb dL_law_1374 (by decide) ?_
        refine lv_iload_n hx hb dL_law_18 rfl (lv_at hl 0 rfl) ?_
        refine lv_aload_n hx hb dL_law_19 rfl (lv_at hl 3 rfl) ?_
        refine va_slen hx hb hX hbl hbA hS dL_law_20 ?_
        refine lv_topi (fun y_34 ey_34 => ?_)
        obtain rfl : y_34 = 6 := ey_34.trans (by decide)
        refine lv_bipush (v := 6) hx hb dL_law_21 (by decide) ?_
        refine lv_isub hx hb dL_law_23 ?_
        refine lv_topi (fun y_35 ey_35 => ?_)
        obtain rfl : y_35 = 0 := ey_35.trans (by decide)
        refine lv_icmp_gt (tgt := 1377) hx hb dL_law_24 (by decide) (fun c_36 => ?_) (fun c_36 => ?_)
        · refine lv_iconst (v := 1) hx hb dL_law_1377 (by decide) ?_
          refine va_forget (fun q hq => hS.2.2 q hq) ?_
          refine W.widen (k := 600000) (n := 7302250) (Nat.le_of_ble_eq_true rfl) (Nat.le_of_ble_eq_true rfl) ?_
          exact lw_ret hx hb hr hlocks dL_law_1378
        · exact absurd c_36 (by decide)
      · exact absurd c_33 (by decide)
  · refine lv_aload_n hx hb dL_law_587 rfl (lv_at hl 1 rfl) ?_
    refine lv_aload_n hx hb dL_law_588 rfl (lv_at hl 3 rfl) ?_
    refine lv_iload_n hx hb dL_law_589 rfl (lv_at hl 0 rfl) ?_
    refine lv_iconst (v := 1) hx hb dL_law_590 (by decide) ?_
    refine lv_iadd hx hb dL_law_591 ?_
    refine lv_topi (fun y_37 ey_37 => ?_)
    obtain rfl : y_37 = 1 := ey_37.trans (by decide)
    refine va_sld hx hb hX hbl hbA hS (zf_in (by decide) (by decide)) dL_law_592 ?_
    refine lv_topi (fun y_38 ey_38 => ?_)
    obtain rfl : a_3 = y_38 := ea_3.trans ey_38.symm
    skip
    refine zw_V (As := [.int a_3]) (rest := [.int 20]) (wr := [(mki, .inl (cI, 8, .inl (fun _ => 0))), (mpa, .inl (cI, 8, .inl (fun _ => 0))), (mta, .inl (cI, 8, .inl (fun _ => 0))), (mco, .inl (cI, 3, .inl (zL3 5 10 50))), (mhe, .inl (cI, 8, .inl (fun _ => 0))), (mso, .inl (cI, 8, .inl (fun _ => 0))), (msi, .inl (cI, 8, .inl (fun _ => 0))), (msh, .inl (cI, 8, .inl (fun _ => 0))), (mce, .inl (cJ, 1280, .inr (.inl (fun _ => 0)))), (mca, .inl (cJ, 160, .inr (.inl (fun _ => 0)))), (mwo, .inl (cI, 64, .inl fw_)), (mnu, .inl (cI, 10, .inl fn_)), (mte, .inl (cI, 3, .inl (fun _ => 0))), (mwa, .inl (cI, 130, .inl (fun _ => 0))), (mke, .inl (cI, 130, .inl (fun _ => 0))), (mma, .inl (cI, 3, .inl (fun _ => 0))), (mth, .inl (cI, 3, .inl (fun _ => 0))), (mtr, .inl (cI, 20, .inl (fun _ => 0)))]) ⟨hx, hb, hml, hown, hts⟩ (c_M_teeth l D cI cJ cZ cP cS m0 mrf mki mpa mta mla msl mco mhe mso msi msh mce mca mwo mnu mte mwa mke mma mth mtr (a_3)  H.size) (cwV 1 hts gq_60 rfl rfl rfl (by decide +kernel) ⟨Nat.le_of_ble_eq_true rfl, Nat.le_of_ble_eq_true rfl⟩) hK hN (hZ.kept hS) hP hD hS hA [0, 1, 5, 6] [2, 3, 4, 7, 8, 9, 10, 11, 12, 13, 14, 15, 16, 17, 18, 19, 20, 21] rfl rfl (by decide) (by decide) (by decide) (va_recv hK hP (ci := 8) (q0 := 0) rfl rfl) rfl hl.1 rfl (Nat.le_of_ble_eq_true rfl) dL_law_593 ⟨Nat.le_of_ble_eq_true rfl, Nat.le_of_ble_eq_true rfl⟩ (fun r_39 u_40 H locs hr_39 hP hD hS => ?_)
    replace hP : va_P D vwCl [(mki, .inl (cI, 8, .inl (fun _ => 0))), (mpa, .inl (cI, 8, .inl (fun _ => 0))), (mta, .inl (cI, 8, .inl (fun _ => 0))), (mco, .inl (cI, 3, .inl (zL3 5 10 50))), (mhe, .inl (cI, 8, .inl (fun _ => 0))), (mso, .inl (cI, 8, .inl (fun _ => 0))), (msi, .inl (cI, 8, .inl (fun _ => 0))), (msh, .inl (cI, 8, .inl (fun _ => 0))), (mce, .inl (cJ, 1280, .inr (.inl (fun _ => 0)))), (mca, .inl (cJ, 160, .inr (.inl (fun _ => 0)))), (mwo, .inl (cI, 64, .inl fw_)), (mnu, .inl (cI, 10, .inl fn_)), (mte, .inl (cI, 3, .inl (fun _ => 0))), (mwa, .inl (cI, 130, .inl (fun _ => 0))), (mke, .inl (cI, 130, .inl (fun _ => 0))), (mma, .inl (cI, 3, .inl (fun _ => 0))), (mth, .inl (cI, 3, .inl (fun _ => 0))), (mtr, .inl (cI, 20, .inl (fun _ => 0)))] H := hP
    replace hD : va_D _ [(mki, .inl (cI, 8, .inl (fun _ => 0))), (mpa, .inl (cI, 8, .inl (fun _ => 0))), (mta, .inl (cI, 8, .inl (fun _ => 0))), (mco, .inl (cI, 3, .inl (zL3 5 10 50))), (mhe, .inl (cI, 8, .inl (fun _ => 0))), (mso, .inl (cI, 8, .inl (fun _ => 0))), (msi, .inl (cI, 8, .inl (fun _ => 0))), (msh, .inl (cI, 8, .inl (fun _ => 0))), (mce, .inl (cJ, 1280, .inr (.inl (fun _ => 0)))), (mca, .inl (cJ, 160, .inr (.inl (fun _ => 0)))), (mwo, .inl (cI, 64, .inl fw_)), (mnu, .inl (cI, 10, .inl fn_)), (mte, .inl (cI, 3, .inl (fun _ => 0))), (mwa, .inl (cI, 130, .inl (fun _ => 0))), (mke, .inl (cI, 130, .inl (fun _ => 0))), (mma, .inl (cI, 3, .inl (fun _ => 0))), (mth, .inl (cI, 3, .inl (fun _ => 0))), (mtr, .inl (cI, 20, .inl (fun _ => 0)))] := hD
    rcases hr_39 with ⟨rfl, g_41⟩ | ⟨rfl, g_42, g_43⟩ | ⟨rfl, g_44, g_45⟩
    · exfalso; omega
    · refine lv_icmp_eq (tgt := 1371) hx hb dL_law_596 (by decide) (fun c_46 => ?_) (fun c_46 => ?_)
      · refine lv_iinc (v := 6) (lv' := [(3, .int 6), (2, .ref m0), (1, .ref x0), (0, .ref b)]) hx hb dL_law_1371 hl (k := 0) rfl (by decide) (by decide) rfl (fun ls hl => ?_)
        refine lv_goto (tgt := 18) hx hb dL_law_1374 (by decide) ?_
        refine lv_iload_n hx hb dL_law_18 rfl (lv_at hl 0 rfl) ?_
        refine lv_aload_n hx hb dL_law_19 rfl (lv_at hl 3 rfl) ?_
        refine va_slen hx hb hX hbl hbA hS dL_law_20 ?_
        refine lv_topi (fun y_47 ey_47 => ?_)
        obtain rfl : y_47 = 6 := ey_47.trans (by decide)
        refine lv_bipush (v := 6) hx hb dL_law_21 (by decide) ?_
        refine lv_isub hx hb dL_law_23 ?_
        refine lv_topi (fun y_48 ey_48 => ?_)
        obtain rfl : y_48 = 0 := ey_48.trans (by decide)
        refine lv_icmp_gt (tgt := 1377) hx hb dL_law_24 (by decide) (fun c_49 => ?_) (fun c_49 => ?_)
        · refine lv_iconst (v := 1) hx hb dL_law_1377 (by decide) ?_
          refine va_forget (fun q hq => hS.2.2 q hq) ?_
          refine W.widen (k := 600000) (n := 7302250) (Nat.le_of_ble_eq_true rfl) (Nat.le_of_ble_eq_true rfl) ?_
          exact lw_ret hx hb hr hlocks dL_law_1378
        · exact absurd c_49 (by decide)
      · exact absurd c_46 (by decide)
    · exfalso; omega
set_option maxHeartbeats 8000000 in
set_option maxRecDepth 100000 in
theorem law_case_10 {p : Program} {l : Launch} {e : Env} {s : State} {m : MethodId} {below : List Frame} {meth : Method} {c : Code} {D : va_G} {cI cJ cZ cP cS : ClassId} {b : Nat} {xs_ : Nat → Int32} (x0 xs j0 k0 w0 rd mv xr z0 jp jc zl zs kz kp kc kzl kzs wk wl wc wp ri rl mb m0 mrf mki mpa mta mla msl mco mhe mso msi msh mce mca mwo mnu mte mwa mke mma mth mtr : Nat) (sh el : Nat → Nat) (fw_ fn_ : Nat → Int32) (C0 : lw_At p s m meth c b 6 xs_) (hK : va_K D vwCl (zKT cI cJ cZ cP cS) s) (hN : zN s) (hZ : zSt (fun q : Nat => s.heap.size ≤ q) s s.heap) (H : Heap) (locs : List Loc) (hP : va_P D vwCl (zLW cI cJ cZ cP cS x0 xs j0 k0 w0 rd mv xr z0 jp jc zl zs kz kp kc kzl kzs wk wl wc wp ri rl mb m0 mrf mki mpa mta mla msl mco mhe mso msi msh mce mca mwo mnu mte mwa mke mma mth mtr sh el fw_ fn_) H) (hD : va_D (fun q : Nat => s.heap.size ≤ q) (zLW cI cJ cZ cP cS x0 xs j0 k0 w0 rd mv xr z0 jp jc zl zs kz kp kc kzl kzs wk wl wc wp ri rl mb m0 mrf mki mpa mta mla msl mco mhe mso msi msh mce mca mwo mnu mte mwa mke mma mth mtr sh el fw_ fn_)) (hS : va_S (fun q : Nat => s.heap.size ≤ q) s.heap H locs) (ls : Array Slot) (hl : lv_has ls 4 [(3, .int 0), (2, .ref m0), (1, .ref x0), (0, .ref b)]) : W p l e room_1 s m #[Value.ref b] below meth c H locs 100 10000 (lw_Z below #[Value.ref b] s) (F0 m 601 ls []) := by
  obtain ⟨hx, hb, hr, hml, hown0, hts, hX, hbl, hlocks, hgv⟩ := id C0
  have hown : s.vm.findClass RL = some m.cls := hown0
  have hA : ∀ q : Nat, s.heap.size ≤ q → (fun q : Nat => s.heap.size ≤ q) q := fun _ h => h
  have hbA : ¬ (fun q : Nat => s.heap.size ≤ q) b := Nat.not_le.mpr hbl
  replace hP : va_P D vwCl ((x0, .inr (7, [.ref xs, .ref j0, .ref k0, .ref w0, .ref rd, .ref mv, .ref xr, .int 0, .int (-1)])) :: (xs, .inl (cS, 8, .inr (.inr (.inr (.inr (zS sh)))))) :: (j0, .inr (0, [.ref z0, .ref jp, .ref jc, .int 0, .int 0, .int 0, .int 60, .int 0, .int 1])) :: (z0, .inr (6, [.ref zl, .ref zs, .int 20, .int 0, .int 3])) :: (zl, .inl (cZ, 40, .inl (fun _ => 0))) :: (zs, .inl (cI, 40, .inl (fun _ => 0))) :: (jp, .inl (cP, 8, .inr (.inr (.inr (.inr (fun _ => none)))))) :: (jc, .inl (cI, 3, .inl (zL3 5 10 50))) :: (k0, .inr (0, [.ref kz, .ref kp, .ref kc, .int 0, .int 0, .int 0, .int 60, .int 0, .int 1])) :: (kz, .inr (6, [.ref kzl, .ref kzs, .int 20, .int 0, .int 3])) :: (kzl, .inl (cZ, 40, .inl (fun _ => 0))) :: (kzs, .inl (cI, 40, .inl (fun _ => 0))) :: (kp, .inl (cP, 8, .inr (.inr (.inr (.inr (fun _ => none)))))) :: (kc, .inl (cI, 3, .inl (zL3 5 10 50))) :: (w0, .inr (5, [.ref wk, .ref wl, .ref wc, .ref wp, .int 0, .int 0, .int 0])) :: (wk, .inl (cI, 125, .inl (fun _ => 0))) :: (wl, .inl (cI, 125, .inl (fun _ => 0))) :: (wc, .inl (cI, 3, .inl (fun _ => 0))) :: (wp, .inl (cP, 8, .inr (.inr (.inr (.inr (fun _ => none)))))) :: (rd, .inr (3, [.ref ri, .ref rl, .int 0, .int 0, .int 0, .int (-1), .int 0, .int 0])) :: (ri, .inl (cI, 132, .inl (fun _ => 0))) :: (rl, .inl (cI, 160, .inl (fun _ => 0))) :: (mv, .inr (1, [.ref mb, .int 0, .int 0, .int 0, .int 0])) :: (mb, .inl (cI, 20, .inl (fun _ => 0))) :: (xr, .inl (cI, 8, .inl (fun _ => 0))) :: ((sh 0), .inr (4, [.ref (el 0), .int (-1), .int 0])) :: ((el 0), .inl (cJ, 160, .inr (.inl (fun _ => 0)))) :: ((sh 1), .inr (4, [.ref (el 1), .int (-1), .int 0])) :: ((el 1), .inl (cJ, 160, .inr (.inl (fun _ => 0)))) :: ((sh 2), .inr (4, [.ref (el 2), .int (-1), .int 0])) :: ((el 2), .inl (cJ, 160, .inr (.inl (fun _ => 0)))) :: ((sh 3), .inr (4, [.ref (el 3), .int (-1), .int 0])) :: ((el 3), .inl (cJ, 160, .inr (.inl (fun _ => 0)))) :: ((sh 4), .inr (4, [.ref (el 4), .int (-1), .int 0])) :: ((el 4), .inl (cJ, 160, .inr (.inl (fun _ => 0)))) :: ((sh 5), .inr (4, [.ref (el 5), .int (-1), .int 0])) :: ((el 5), .inl (cJ, 160, .inr (.inl (fun _ => 0)))) :: ((sh 6), .inr (4, [.ref (el 6), .int (-1), .int 0])) :: ((el 6), .inl (cJ, 160, .inr (.inl (fun _ => 0)))) :: ((sh 7), .inr (4, [.ref (el 7), .int (-1), .int 0])) :: ((el 7), .inl (cJ, 160, .inr (.inl (fun _ => 0)))) :: (m0, .inr (8, (.int 0 :: .int 20 :: .int 0 :: .int 0 :: .int 0 :: .int 60 :: .int 0 :: .int 3 :: .int 1 :: .int (-1) :: .ref mrf :: .ref mki :: .ref mpa :: .ref mta :: .ref mla :: .ref msl :: .ref mco :: .ref mhe :: .ref mso :: .ref msi :: .ref msh :: .ref mce :: .ref mca :: .ref mwo :: .ref mnu :: .ref mte :: .int 0 :: .int 0 :: .int 0 :: .int 0 :: .int 0 :: .ref mwa :: .ref mke :: .ref mma :: .ref mth :: .ref mtr :: .int 0 :: .int 0 :: []))) :: (mrf, .inl (cI, 8, .inl (fun _ => 0))) :: (mki, .inl (cI, 8, .inl (fun _ => 0))) :: (mpa, .inl (cI, 8, .inl (fun _ => 0))) :: (mta, .inl (cI, 8, .inl (fun _ => 0))) :: (mla, .inl (cI, 40, .inl (fun _ => 0))) :: (msl, .inl (cI, 40, .inl (fun _ => 0))) :: (mco, .inl (cI, 3, .inl (zL3 5 10 50))) :: (mhe, .inl (cI, 8, .inl (fun _ => 0))) :: (mso, .inl (cI, 8, .inl (fun _ => 0))) :: (msi, .inl (cI, 8, .inl (fun _ => 0))) :: (msh, .inl (cI, 8, .inl (fun _ => 0))) :: (mce, .inl (cJ, 1280, .inr (.inl (fun _ => 0)))) :: (mca, .inl (cJ, 160, .inr (.inl (fun _ => 0)))) :: (mwo, .inl (cI, 64, .inl fw_)) :: (mnu, .inl (cI, 10, .inl fn_)) :: (mte, .inl (cI, 3, .inl (fun _ => 0))) :: (mwa, .inl (cI, 130, .inl (fun _ => 0))) :: (mke, .inl (cI, 130, .inl (fun _ => 0))) :: (mma, .inl (cI, 3, .inl (fun _ => 0))) :: (mth, .inl (cI, 3, .inl (fun _ => 0))) :: (mtr, .inl (cI, 20, .inl (fun _ => 0))) :: []) H := hP
  replace hD : va_D _ ((x0, .inr (7, [.ref xs, .ref j0, .ref k0, .ref w0, .ref rd, .ref mv, .ref xr, .int 0, .int (-1)])) :: (xs, .inl (cS, 8, .inr (.inr (.inr (.inr (zS sh)))))) :: (j0, .inr (0, [.ref z0, .ref jp, .ref jc, .int 0, .int 0, .int 0, .int 60, .int 0, .int 1])) :: (z0, .inr (6, [.ref zl, .ref zs, .int 20, .int 0, .int 3])) :: (zl, .inl (cZ, 40, .inl (fun _ => 0))) :: (zs, .inl (cI, 40, .inl (fun _ => 0))) :: (jp, .inl (cP, 8, .inr (.inr (.inr (.inr (fun _ => none)))))) :: (jc, .inl (cI, 3, .inl (zL3 5 10 50))) :: (k0, .inr (0, [.ref kz, .ref kp, .ref kc, .int 0, .int 0, .int 0, .int 60, .int 0, .int 1])) :: (kz, .inr (6, [.ref kzl, .ref kzs, .int 20, .int 0, .int 3])) :: (kzl, .inl (cZ, 40, .inl (fun _ => 0))) :: (kzs, .inl (cI, 40, .inl (fun _ => 0))) :: (kp, .inl (cP, 8, .inr (.inr (.inr (.inr (fun _ => none)))))) :: (kc, .inl (cI, 3, .inl (zL3 5 10 50))) :: (w0, .inr (5, [.ref wk, .ref wl, .ref wc, .ref wp, .int 0, .int 0, .int 0])) :: (wk, .inl (cI, 125, .inl (fun _ => 0))) :: (wl, .inl (cI, 125, .inl (fun _ => 0))) :: (wc, .inl (cI, 3, .inl (fun _ => 0))) :: (wp, .inl (cP, 8, .inr (.inr (.inr (.inr (fun _ => none)))))) :: (rd, .inr (3, [.ref ri, .ref rl, .int 0, .int 0, .int 0, .int (-1), .int 0, .int 0])) :: (ri, .inl (cI, 132, .inl (fun _ => 0))) :: (rl, .inl (cI, 160, .inl (fun _ => 0))) :: (mv, .inr (1, [.ref mb, .int 0, .int 0, .int 0, .int 0])) :: (mb, .inl (cI, 20, .inl (fun _ => 0))) :: (xr, .inl (cI, 8, .inl (fun _ => 0))) :: ((sh 0), .inr (4, [.ref (el 0), .int (-1), .int 0])) :: ((el 0), .inl (cJ, 160, .inr (.inl (fun _ => 0)))) :: ((sh 1), .inr (4, [.ref (el 1), .int (-1), .int 0])) :: ((el 1), .inl (cJ, 160, .inr (.inl (fun _ => 0)))) :: ((sh 2), .inr (4, [.ref (el 2), .int (-1), .int 0])) :: ((el 2), .inl (cJ, 160, .inr (.inl (fun _ => 0)))) :: ((sh 3), .inr (4, [.ref (el 3), .int (-1), .int 0])) :: ((el 3), .inl (cJ, 160, .inr (.inl (fun _ => 0)))) :: ((sh 4), .inr (4, [.ref (el 4), .int (-1), .int 0])) :: ((el 4), .inl (cJ, 160, .inr (.inl (fun _ => 0)))) :: ((sh 5), .inr (4, [.ref (el 5), .int (-1), .int 0])) :: ((el 5), .inl (cJ, 160, .inr (.inl (fun _ => 0)))) :: ((sh 6), .inr (4, [.ref (el 6), .int (-1), .int 0])) :: ((el 6), .inl (cJ, 160, .inr (.inl (fun _ => 0)))) :: ((sh 7), .inr (4, [.ref (el 7), .int (-1), .int 0])) :: ((el 7), .inl (cJ, 160, .inr (.inl (fun _ => 0)))) :: (m0, .inr (8, (.int 0 :: .int 20 :: .int 0 :: .int 0 :: .int 0 :: .int 60 :: .int 0 :: .int 3 :: .int 1 :: .int (-1) :: .ref mrf :: .ref mki :: .ref mpa :: .ref mta :: .ref mla :: .ref msl :: .ref mco :: .ref mhe :: .ref mso :: .ref msi :: .ref msh :: .ref mce :: .ref mca :: .ref mwo :: .ref mnu :: .ref mte :: .int 0 :: .int 0 :: .int 0 :: .int 0 :: .int 0 :: .ref mwa :: .ref mke :: .ref mma :: .ref mth :: .ref mtr :: .int 0 :: .int 0 :: []))) :: (mrf, .inl (cI, 8, .inl (fun _ => 0))) :: (mki, .inl (cI, 8, .inl (fun _ => 0))) :: (mpa, .inl (cI, 8, .inl (fun _ => 0))) :: (mta, .inl (cI, 8, .inl (fun _ => 0))) :: (mla, .inl (cI, 40, .inl (fun _ => 0))) :: (msl, .inl (cI, 40, .inl (fun _ => 0))) :: (mco, .inl (cI, 3, .inl (zL3 5 10 50))) :: (mhe, .inl (cI, 8, .inl (fun _ => 0))) :: (mso, .inl (cI, 8, .inl (fun _ => 0))) :: (msi, .inl (cI, 8, .inl (fun _ => 0))) :: (msh, .inl (cI, 8, .inl (fun _ => 0))) :: (mce, .inl (cJ, 1280, .inr (.inl (fun _ => 0)))) :: (mca, .inl (cJ, 160, .inr (.inl (fun _ => 0)))) :: (mwo, .inl (cI, 64, .inl fw_)) :: (mnu, .inl (cI, 10, .inl fn_)) :: (mte, .inl (cI, 3, .inl (fun _ => 0))) :: (mwa, .inl (cI, 130, .inl (fun _ => 0))) :: (mke, .inl (cI, 130, .inl (fun _ => 0))) :: (mma, .inl (cI, 3, .inl (fun _ => 0))) :: (mth, .inl (cI, 3, .inl (fun _ => 0))) :: (mtr, .inl (cI, 20, .inl (fun _ => 0))) :: []) := hD
  refine lv_aload_n hx hb dL_law_601 rfl (lv_at hl 2 rfl) ?_
  refine lv_aload_n hx hb dL_law_602 rfl (lv_at hl 3 rfl) ?_
  refine lv_iload_n hx hb dL_law_603 rfl (lv_at hl 0 rfl) ?_
  refine lv_iconst (v := 1) hx hb dL_law_604 (by decide) ?_
  refine lv_iadd hx hb dL_law_605 ?_
  refine lv_topi (fun y_1 ey_1 => ?_)
  obtain rfl : y_1 = 1 := ey_1.trans (by decide)
  refine va_sld hx hb hX hbl hbA hS (zf_in (by decide) (by decide)) dL_law_606 ?_
  refine lv_topi (fun a_3 ea_3 => ?_)
  refine lv_aload_n hx hb dL_law_607 rfl (lv_at hl 3 rfl) ?_
  refine lv_iload_n hx hb dL_law_608 rfl (lv_at hl 0 rfl) ?_
  refine lv_iconst (v := 2) hx hb dL_law_609 (by decide) ?_
  refine lv_iadd hx hb dL_law_610 ?_
  refine lv_topi (fun y_4 ey_4 => ?_)
  obtain rfl : y_4 = 2 := ey_4.trans (by decide)
  refine va_sld hx hb hX hbl hbA hS (zf_in (by decide) (by decide)) dL_law_611 ?_
  refine lv_topi (fun a_6 ea_6 => ?_)
  refine lv_if_eq (tgt := 619) hx hb dL_law_612 (by decide) (fun c_7 => ?_) (fun c_7 => ?_)
  · have fc_7 : a_6.toInt = 0 := zf_eq c_7 rfl (by decide)
    refine lv_iconst (v := 0) hx hb dL_law_619 (by decide) ?_
    skip
    refine zw_V (As := [.int a_3, .int 0]) (rest := []) (wr := ((m0, .inr (8, (.int 0 :: .int 20 :: .int 0 :: .int 0 :: .int 0 :: .int 60 :: .int 0 :: .int 3 :: .int 1 :: .int (-1) :: .ref mrf :: .ref mki :: .ref mpa :: .ref mta :: .ref mla :: .ref msl :: .ref mco :: .ref mhe :: .ref mso :: .ref msi :: .ref msh :: .ref mce :: .ref mca :: .ref mwo :: .ref mnu :: .ref mte :: .int 0 :: .int 0 :: .int 0 :: .int 0 :: .int 0 :: .ref mwa :: .ref mke :: .ref mma :: .ref mth :: .ref mtr :: .int 0 :: .int 0 :: []))) :: (mrf, .inl (cI, 8, .inl (fun _ => 0))) :: (mki, .inl (cI, 8, .inl (fun _ => 0))) :: (mpa, .inl (cI, 8, .inl (fun _ => 0))) :: (mta, .inl (cI, 8, .inl (fun _ => 0))) :: (mla, .inl (cI, 40, .inl (fun _ => 0))) :: (msl, .inl (cI, 40, .inl (fun _ => 0))) :: (mco, .inl (cI, 3, .inl (zL3 5 10 50))) :: (mhe, .inl (cI, 8, .inl (fun _ => 0))) :: (mso, .inl (cI, 8, .inl (fun _ => 0))) :: (msi, .inl (cI, 8, .inl (fun _ => 0))) :: (msh, .inl (cI, 8, .inl (fun _ => 0))) :: (mce, .inl (cJ, 1280, .inr (.inl (fun _ => 0)))) :: (mca, .inl (cJ, 160, .inr (.inl (fun _ => 0)))) :: (mwo, .inl (cI, 64, .inl fw_)) :: (mnu, .inl (cI, 10, .inl fn_)) :: (mte, .inl (cI, 3, .inl (fun _ => 0))) :: (mwa, .inl (cI, 130, .inl (fun _ => 0))) :: (mke, .inl (cI, 130, .inl (fun _ => 0))) :: (mma, .inl (cI, 3, .inl (fun _ => 0))) :: (mth, .inl (cI, 3, .inl (fun _ => 0))) :: (mtr, .inl (cI, 20, .inl (fun _ => 0))) :: [])) ⟨hx, hb, hml, hown, hts⟩ (c_lack l D cI cJ cZ cP cS x0 xs j0 k0 w0 rd mv xr jp jc z0 zl zs (a_3) (0)  H.size) (cwV 2 hts gq_61 rfl rfl rfl (by decide +kernel) ⟨Nat.le_of_ble_eq_true rfl, Nat.le_of_ble_eq_true rfl⟩) hK hN (hZ.kept hS) hP hD hS hA [0, 24, 2, 3, 4] [41, 42, 43, 44, 45, 46, 47, 48, 49, 50, 51, 52, 53, 54, 55, 56, 57, 58, 59, 60, 61, 62] rfl rfl (by decide) (by decide) (by decide) (va_recv hK hP (ci := 7) (q0 := 0) rfl rfl) rfl hl.1 rfl (Nat.le_of_ble_eq_true rfl) dL_law_620 ⟨Nat.le_of_ble_eq_true rfl, Nat.le_of_ble_eq_true rfl⟩ (fun r_8 u_9 H locs hr_8 hP hD hS => ?_)
    replace hP : va_P D vwCl ((m0, .inr (8, (.int 0 :: .int 20 :: .int 0 :: .int 0 :: .int 0 :: .int 60 :: .int 0 :: .int 3 :: .int 1 :: .int (-1) :: .ref mrf :: .ref mki :: .ref mpa :: .ref mta :: .ref mla :: .ref msl :: .ref mco :: .ref mhe :: .ref mso :: .ref msi :: .ref msh :: .ref mce :: .ref mca :: .ref mwo :: .ref mnu :: .ref mte :: .int 0 :: .int 0 :: .int 0 :: .int 0 :: .int 0 :: .ref mwa :: .ref mke :: .ref mma :: .ref mth :: .ref mtr :: .int 0 :: .int 0 :: []))) :: (mrf, .inl (cI, 8, .inl (fun _ => 0))) :: (mki, .inl (cI, 8, .inl (fun _ => 0))) :: (mpa, .inl (cI, 8, .inl (fun _ => 0))) :: (mta, .inl (cI, 8, .inl (fun _ => 0))) :: (mla, .inl (cI, 40, .inl (fun _ => 0))) :: (msl, .inl (cI, 40, .inl (fun _ => 0))) :: (mco, .inl (cI, 3, .inl (zL3 5 10 50))) :: (mhe, .inl (cI, 8, .inl (fun _ => 0))) :: (mso, .inl (cI, 8, .inl (fun _ => 0))) :: (msi, .inl (cI, 8, .inl (fun _ => 0))) :: (msh, .inl (cI, 8, .inl (fun _ => 0))) :: (mce, .inl (cJ, 1280, .inr (.inl (fun _ => 0)))) :: (mca, .inl (cJ, 160, .inr (.inl (fun _ => 0)))) :: (mwo, .inl (cI, 64, .inl fw_)) :: (mnu, .inl (cI, 10, .inl fn_)) :: (mte, .inl (cI, 3, .inl (fun _ => 0))) :: (mwa, .inl (cI, 130, .inl (fun _ => 0))) :: (mke, .inl (cI, 130, .inl (fun _ => 0))) :: (mma, .inl (cI, 3, .inl (fun _ => 0))) :: (mth, .inl (cI, 3, .inl (fun _ => 0))) :: (mtr, .inl (cI, 20, .inl (fun _ => 0))) :: []) H := hP
    replace hD : va_D _ ((m0, .inr (8, (.int 0 :: .int 20 :: .int 0 :: .int 0 :: .int 0 :: .int 60 :: .int 0 :: .int 3 :: .int 1 :: .int (-1) :: .ref mrf :: .ref mki :: .ref mpa :: .ref mta :: .ref mla :: .ref msl :: .ref mco :: .ref mhe :: .ref mso :: .ref msi :: .ref msh :: .ref mce :: .ref mca :: .ref mwo :: .ref mnu :: .ref mte :: .int 0 :: .int 0 :: .int 0 :: .int 0 :: .int 0 :: .ref mwa :: .ref mke :: .ref mma :: .ref mth :: .ref mtr :: .int 0 :: .int 0 :: []))) :: (mrf, .inl (cI, 8, .inl (fun _ => 0))) :: (mki, .inl (cI, 8, .inl (fun _ => 0))) :: (mpa, .inl (cI, 8, .inl (fun _ => 0))) :: (mta, .inl (cI, 8, .inl (fun _ => 0))) :: (mla, .inl (cI, 40, .inl (fun _ => 0))) :: (msl, .inl (cI, 40, .inl (fun _ => 0))) :: (mco, .inl (cI, 3, .inl (zL3 5 10 50))) :: (mhe, .inl (cI, 8, .inl (fun _ => 0))) :: (mso, .inl (cI, 8, .inl (fun _ => 0))) :: (msi, .inl (cI, 8, .inl (fun _ => 0))) :: (msh, .inl (cI, 8, .inl (fun _ => 0))) :: (mce, .inl (cJ, 1280, .inr (.inl (fun _ => 0)))) :: (mca, .inl (cJ, 160, .inr (.inl (fun _ => 0)))) :: (mwo, .inl (cI, 64, .inl fw_)) :: (mnu, .inl (cI, 10, .inl fn_)) :: (mte, .inl (cI, 3, .inl (fun _ => 0))) :: (mwa, .inl (cI, 130, .inl (fun _ => 0))) :: (mke, .inl (cI, 130, .inl (fun _ => 0))) :: (mma, .inl (cI, 3, .inl (fun _ => 0))) :: (mth, .inl (cI, 3, .inl (fun _ => 0))) :: (mtr, .inl (cI, 20, .inl (fun _ => 0))) :: []) := hD
    rcases hr_8 with ⟨rfl, g_10⟩ | ⟨rfl, g_11, g_12⟩ | ⟨rfl, g_13, g_14⟩
    · refine lv_aload_n hx hb dL_law_623 rfl (lv_at hl 1 rfl) ?_
      refine lv_aload_n hx hb dL_law_624 rfl (lv_at hl 3 rfl) ?_
      refine lv_iload_n hx hb dL_law_625 rfl (lv_at hl 0 rfl) ?_
      refine lv_iconst (v := 1) hx hb dL_law_626 (by decide) ?_
      refine lv_iadd hx hb dL_law_627 ?_
      refine lv_topi (fun y_15 ey_15 => ?_)
      obtain rfl : y_15 = 1 := ey_15.trans (by decide)
      refine va_sld hx hb hX hbl hbA hS (zf_in (by decide) (by decide)) dL_law_628 ?_
      refine lv_topi (fun y_16 ey_16 => ?_)
      obtain rfl : a_3 = y_16 := ea_3.trans ey_16.symm
      refine lv_aload_n hx hb dL_law_629 rfl (lv_at hl 3 rfl) ?_
      refine lv_iload_n hx hb dL_law_630 rfl (lv_at hl 0 rfl) ?_
      refine lv_iconst (v := 2) hx hb dL_law_631 (by decide) ?_
      refine lv_iadd hx hb dL_law_632 ?_
      refine lv_topi (fun y_17 ey_17 => ?_)
      obtain rfl : y_17 = 2 := ey_17.trans (by decide)
      refine va_sld hx hb hX hbl hbA hS (zf_in (by decide) (by decide)) dL_law_633 ?_
      refine lv_topi (fun y_18 ey_18 => ?_)
      obtain rfl : a_6 = y_18 := ea_6.trans ey_18.symm
      refine lv_if_eq (tgt := 641) hx hb dL_law_634 (by decide) (fun c_19 => ?_) (fun c_19 => ?_)
      · have fc_19 : a_6.toInt = 0 := zf_eq c_19 rfl (by decide)
        refine lv_iconst (v := 0) hx hb dL_law_641 (by decide) ?_
        have kc0 : (0 : Int32).toInt = 0 := by decide
        skip
        refine zw_V (As := [.int a_3, .int 0]) (rest := [.int (-1)]) (wr := [(mki, .inl (cI, 8, .inl (fun _ => 0))), (mpa, .inl (cI, 8, .inl (fun _ => 0))), (mta, .inl (cI, 8, .inl (fun _ => 0))), (msl, .inl (cI, 40, .inl (fun _ => 0))), (mco, .inl (cI, 3, .inl (zL3 5 10 50))), (mhe, .inl (cI, 8, .inl (fun _ => 0))), (mso, .inl (cI, 8, .inl (fun _ => 0))), (msi, .inl (cI, 8, .inl (fun _ => 0))), (msh, .inl (cI, 8, .inl (fun _ => 0))), (mce, .inl (cJ, 1280, .inr (.inl (fun _ => 0)))), (mca, .inl (cJ, 160, .inr (.inl (fun _ => 0)))), (mwo, .inl (cI, 64, .inl fw_)), (mnu, .inl (cI, 10, .inl fn_)), (mte, .inl (cI, 3, .inl (fun _ => 0))), (mwa, .inl (cI, 130, .inl (fun _ => 0))), (mke, .inl (cI, 130, .inl (fun _ => 0))), (mma, .inl (cI, 3, .inl (fun _ => 0))), (mth, .inl (cI, 3, .inl (fun _ => 0))), (mtr, .inl (cI, 20, .inl (fun _ => 0)))]) ⟨hx, hb, hml, hown, hts⟩ (c_M_lack l D cI cJ cZ cP cS m0 mrf mki mpa mta mla msl mco mhe mso msi msh mce mca mwo mnu mte mwa mke mma mth mtr (a_3) (0)  H.size) (cwV 2 hts gq_65 rfl rfl rfl (by decide +kernel) ⟨Nat.le_of_ble_eq_true rfl, Nat.le_of_ble_eq_true rfl⟩) hK hN (hZ.kept hS) hP hD hS hA [0, 1, 5] [2, 3, 4, 6, 7, 8, 9, 10, 11, 12, 13, 14, 15, 16, 17, 18, 19, 20, 21] rfl rfl (by decide) (by decide) (by decide) (va_recv hK hP (ci := 8) (q0 := 0) rfl rfl) rfl hl.1 rfl (Nat.le_of_ble_eq_true rfl) dL_law_642 ⟨Nat.le_of_ble_eq_true rfl, Nat.le_of_ble_eq_true rfl⟩ (fun r_20 u_21 H locs hr_20 hP hD hS => ?_)
        replace hP : va_P D vwCl [(mki, .inl (cI, 8, .inl (fun _ => 0))), (mpa, .inl (cI, 8, .inl (fun _ => 0))), (mta, .inl (cI, 8, .inl (fun _ => 0))), (msl, .inl (cI, 40, .inl (fun _ => 0))), (mco, .inl (cI, 3, .inl (zL3 5 10 50))), (mhe, .inl (cI, 8, .inl (fun _ => 0))), (mso, .inl (cI, 8, .inl (fun _ => 0))), (msi, .inl (cI, 8, .inl (fun _ => 0))), (msh, .inl (cI, 8, .inl (fun _ => 0))), (mce, .inl (cJ, 1280, .inr (.inl (fun _ => 0)))), (mca, .inl (cJ, 160, .inr (.inl (fun _ => 0)))), (mwo, .inl (cI, 64, .inl fw_)), (mnu, .inl (cI, 10, .inl fn_)), (mte, .inl (cI, 3, .inl (fun _ => 0))), (mwa, .inl (cI, 130, .inl (fun _ => 0))), (mke, .inl (cI, 130, .inl (fun _ => 0))), (mma, .inl (cI, 3, .inl (fun _ => 0))), (mth, .inl (cI, 3, .inl (fun _ => 0))), (mtr, .inl (cI, 20, .inl (fun _ => 0)))] H := hP
        replace hD : va_D _ [(mki, .inl (cI, 8, .inl (fun _ => 0))), (mpa, .inl (cI, 8, .inl (fun _ => 0))), (mta, .inl (cI, 8, .inl (fun _ => 0))), (msl, .inl (cI, 40, .inl (fun _ => 0))), (mco, .inl (cI, 3, .inl (zL3 5 10 50))), (mhe, .inl (cI, 8, .inl (fun _ => 0))), (mso, .inl (cI, 8, .inl (fun _ => 0))), (msi, .inl (cI, 8, .inl (fun _ => 0))), (msh, .inl (cI, 8, .inl (fun _ => 0))), (mce, .inl (cJ, 1280, .inr (.inl (fun _ => 0)))), (mca, .inl (cJ, 160, .inr (.inl (fun _ => 0)))), (mwo, .inl (cI, 64, .inl fw_)), (mnu, .inl (cI, 10, .inl fn_)), (mte, .inl (cI, 3, .inl (fun _ => 0))), (mwa, .inl (cI, 130, .inl (fun _ => 0))), (mke, .inl (cI, 130, .inl (fun _ => 0))), (mma, .inl (cI, 3, .inl (fun _ => 0))), (mth, .inl (cI, 3, .inl (fun _ => 0))), (mtr, .inl (cI, 20, .inl (fun _ => 0)))] := hD
        rcases hr_20 with ⟨rfl, g_22⟩ | ⟨rfl, g_23, g_24⟩ | ⟨rfl, g_25, g_26, g_27⟩ | ⟨rfl, g_28, g_29, g_30⟩
        · refine lv_icmp_eq (tgt := 1371) hx hb dL_law_645 (by decide) (fun c_31 => ?_) (fun c_31 => ?_)
          · refine lv_iinc (v := 6) (lv' := [(3, .int 6), (2, .ref m0), (1, .ref x0), (0, .ref b)]) hx hb dL_law_1371 hl (k := 0) rfl (by decide) (by decide) rfl (fun ls hl => ?_)
            refine lv_goto (tgt := 18) hx hb dL_law_1374 (by decide) ?_
            refine lv_iload_n hx hb dL_law_18 rfl (lv_at hl 0 rfl) ?_
            refine lv_aload_n hx hb dL_law_19 rfl (lv_at hl 3 rfl) ?_
            refine va_slen hx hb hX hbl hbA hS dL_law_20 ?_
            refine lv_topi (fun y_32 ey_32 => ?_)
            obtain rfl : y_32 = 6 := ey_32.trans (by decide)
            refine lv_bipush (v := 6) hx hb dL_law_21 (by decide) ?_
            refine lv_isub hx hb dL_law_23 ?_
            refine lv_topi (fun y_33 ey_33 => ?_)
            obtain rfl : y_33 = 0 := ey_33.trans (by decide)
            refine lv_icmp_gt (tgt := 1377) hx hb dL_law_24 (by decide) (fun c_34 => ?_) (fun c_34 => ?_)
            · refine lv_iconst (v := 1) hx hb dL_law_1377 (by decide) ?_
              refine va_forget (fun q hq => hS.2.2 q hq) ?_
              refine W.widen (k := 600000) (n := 7302250) (Nat.le_of_ble_eq_true rfl) (Nat.le_of_ble_eq_true rfl) ?_
              exact lw_ret hx hb hr hlocks dL_law_1378
            · exact absurd c_34 (by decide)
          · exact absurd c_31 (by decide)
        · exfalso; omega
        · exfalso; omega
        · exfalso; omega
      · exfalso; have fc_19 : a_6.toInt ≠ 0 := zf_ne c_19 rfl (by decide); omega
    · refine lv_aload_n hx hb dL_law_623 rfl (lv_at hl 1 rfl) ?_
      refine lv_aload_n hx hb dL_law_624 rfl (lv_at hl 3 rfl) ?_
      refine lv_iload_n hx hb dL_law_625 rfl (lv_at hl 0 rfl) ?_
      refine lv_iconst (v := 1) hx hb dL_law_626 (by decide) ?_
      refine lv_iadd hx hb dL_law_627 ?_
      refine lv_topi (fun y_35 ey_35 => ?_)
      obtain rfl : y_35 = 1 := ey_35.trans (by decide)
      refine va_sld hx hb hX hbl hbA hS (zf_in (by decide) (by decide)) dL_law_628 ?_
      refine lv_topi (fun y_36 ey_36 => ?_)
      obtain rfl : a_3 = y_36 := ea_3.trans ey_36.symm
      refine lv_aload_n hx hb dL_law_629 rfl (lv_at hl 3 rfl) ?_
      refine lv_iload_n hx hb dL_law_630 rfl (lv_at hl 0 rfl) ?_
      refine lv_iconst (v := 2) hx hb dL_law_631 (by decide) ?_
      refine lv_iadd hx hb dL_law_632 ?_
      refine lv_topi (fun y_37 ey_37 => ?_)
      obtain rfl : y_37 = 2 := ey_37.trans (by decide)
      refine va_sld hx hb hX hbl hbA hS (zf_in (by decide) (by decide)) dL_law_633 ?_
      refine lv_topi (fun y_38 ey_38 => ?_)
      obtain rfl : a_6 = y_38 := ea_6.trans ey_38.symm
      refine lv_if_eq (tgt := 641) hx hb dL_law_634 (by decide) (fun c_39 => ?_) (fun c_39 => ?_)
      · have fc_39 : a_6.toInt = 0 := zf_eq c_39 rfl (by decide)
        refine lv_iconst (v := 0) hx hb dL_law_641 (by decide) ?_
        have kc0 : (0 : Int32).toInt = 0 := by decide
        skip
        refine zw_V (As := [.int a_3, .int 0]) (rest := [.int (-1)]) (wr := [(mki, .inl (cI, 8, .inl (fun _ => 0))), (mpa, .inl (cI, 8, .inl (fun _ => 0))), (mta, .inl (cI, 8, .inl (fun _ => 0))), (msl, .inl (cI, 40, .inl (fun _ => 0))), (mco, .inl (cI, 3, .inl (zL3 5 10 50))), (mhe, .inl (cI, 8, .inl (fun _ => 0))), (mso, .inl (cI, 8, .inl (fun _ => 0))), (msi, .inl (cI, 8, .inl (fun _ => 0))), (msh, .inl (cI, 8, .inl (fun _ => 0))), (mce, .inl (cJ, 1280, .inr (.inl (fun _ => 0)))), (mca, .inl (cJ, 160, .inr (.inl (fun _ => 0)))), (mwo, .inl (cI, 64, .inl fw_)), (mnu, .inl (cI, 10, .inl fn_)), (mte, .inl (cI, 3, .inl (fun _ => 0))), (mwa, .inl (cI, 130, .inl (fun _ => 0))), (mke, .inl (cI, 130, .inl (fun _ => 0))), (mma, .inl (cI, 3, .inl (fun _ => 0))), (mth, .inl (cI, 3, .inl (fun _ => 0))), (mtr, .inl (cI, 20, .inl (fun _ => 0)))]) ⟨hx, hb, hml, hown, hts⟩ (c_M_lack l D cI cJ cZ cP cS m0 mrf mki mpa mta mla msl mco mhe mso msi msh mce mca mwo mnu mte mwa mke mma mth mtr (a_3) (0)  H.size) (cwV 2 hts gq_65 rfl rfl rfl (by decide +kernel) ⟨Nat.le_of_ble_eq_true rfl, Nat.le_of_ble_eq_true rfl⟩) hK hN (hZ.kept hS) hP hD hS hA [0, 1, 5] [2, 3, 4, 6, 7, 8, 9, 10, 11, 12, 13, 14, 15, 16, 17, 18, 19, 20, 21] rfl rfl (by decide) (by decide) (by decide) (va_recv hK hP (ci := 8) (q0 := 0) rfl rfl) rfl hl.1 rfl (Nat.le_of_ble_eq_true rfl) dL_law_642 ⟨Nat.le_of_ble_eq_true rfl, Nat.le_of_ble_eq_true rfl⟩ (fun r_40 u_41 H locs hr_40 hP hD hS => ?_)
        replace hP : va_P D vwCl [(mki, .inl (cI, 8, .inl (fun _ => 0))), (mpa, .inl (cI, 8, .inl (fun _ => 0))), (mta, .inl (cI, 8, .inl (fun _ => 0))), (msl, .inl (cI, 40, .inl (fun _ => 0))), (mco, .inl (cI, 3, .inl (zL3 5 10 50))), (mhe, .inl (cI, 8, .inl (fun _ => 0))), (mso, .inl (cI, 8, .inl (fun _ => 0))), (msi, .inl (cI, 8, .inl (fun _ => 0))), (msh, .inl (cI, 8, .inl (fun _ => 0))), (mce, .inl (cJ, 1280, .inr (.inl (fun _ => 0)))), (mca, .inl (cJ, 160, .inr (.inl (fun _ => 0)))), (mwo, .inl (cI, 64, .inl fw_)), (mnu, .inl (cI, 10, .inl fn_)), (mte, .inl (cI, 3, .inl (fun _ => 0))), (mwa, .inl (cI, 130, .inl (fun _ => 0))), (mke, .inl (cI, 130, .inl (fun _ => 0))), (mma, .inl (cI, 3, .inl (fun _ => 0))), (mth, .inl (cI, 3, .inl (fun _ => 0))), (mtr, .inl (cI, 20, .inl (fun _ => 0)))] H := hP
        replace hD : va_D _ [(mki, .inl (cI, 8, .inl (fun _ => 0))), (mpa, .inl (cI, 8, .inl (fun _ => 0))), (mta, .inl (cI, 8, .inl (fun _ => 0))), (msl, .inl (cI, 40, .inl (fun _ => 0))), (mco, .inl (cI, 3, .inl (zL3 5 10 50))), (mhe, .inl (cI, 8, .inl (fun _ => 0))), (mso, .inl (cI, 8, .inl (fun _ => 0))), (msi, .inl (cI, 8, .inl (fun _ => 0))), (msh, .inl (cI, 8, .inl (fun _ => 0))), (mce, .inl (cJ, 1280, .inr (.inl (fun _ => 0)))), (mca, .inl (cJ, 160, .inr (.inl (fun _ => 0)))), (mwo, .inl (cI, 64, .inl fw_)), (mnu, .inl (cI, 10, .inl fn_)), (mte, .inl (cI, 3, .inl (fun _ => 0))), (mwa, .inl (cI, 130, .inl (fun _ => 0))), (mke, .inl (cI, 130, .inl (fun _ => 0))), (mma, .inl (cI, 3, .inl (fun _ => 0))), (mth, .inl (cI, 3, .inl (fun _ => 0))), (mtr, .inl (cI, 20, .inl (fun _ => 0)))] := hD
        rcases hr_40 with ⟨rfl, g_42⟩ | ⟨rfl, g_43, g_44⟩ | ⟨rfl, g_45, g_46, g_47⟩ | ⟨rfl, g_48, g_49, g_50⟩
        · exfalso; omega
        · refine lv_icmp_eq (tgt := 1371) hx hb dL_law_645 (by decide) (fun c_51 => ?_) (fun c_51 => ?_)
          · refine lv_iinc (v := 6) (lv' := [(3, .int 6), (2, .ref m0), (1, .ref x0), (0, .ref b)]) hx hb dL_law_1371 hl (k := 0) rfl (by decide) (by decide) rfl (fun ls hl => ?_)
            refine lv_goto (tgt := 18) hx hb dL_law_1374 (by decide) ?_
            refine lv_iload_n hx hb dL_law_18 rfl (lv_at hl 0 rfl) ?_
            refine lv_aload_n hx hb dL_law_19 rfl (lv_at hl 3 rfl) ?_
            refine va_slen hx hb hX hbl hbA hS dL_law_20 ?_
            refine lv_topi (fun y_52 ey_52 => ?_)
            obtain rfl : y_52 = 6 := ey_52.trans (by decide)
            refine lv_bipush (v := 6) hx hb dL_law_21 (by decide) ?_
            refine lv_isub hx hb dL_law_23 ?_
            refine lv_topi (fun y_53 ey_53 => ?_)
            obtain rfl : y_53 = 0 := ey_53.trans (by decide)
            refine lv_icmp_gt (tgt := 1377) hx hb dL_law_24 (by decide) (fun c_54 => ?_) (fun c_54 => ?_)
            · refine lv_iconst (v := 1) hx hb dL_law_1377 (by decide) ?_
              refine va_forget (fun q hq => hS.2.2 q hq) ?_
              refine W.widen (k := 600000) (n := 7302250) (Nat.le_of_ble_eq_true rfl) (Nat.le_of_ble_eq_true rfl) ?_
              exact lw_ret hx hb hr hlocks dL_law_1378
            · exact absurd c_54 (by decide)
          · exact absurd c_51 (by decide)
        · exfalso; omega
        · exfalso; omega
      · exfalso; have fc_39 : a_6.toInt ≠ 0 := zf_ne c_39 rfl (by decide); omega
    · refine lv_aload_n hx hb dL_law_623 rfl (lv_at hl 1 rfl) ?_
      refine lv_aload_n hx hb dL_law_624 rfl (lv_at hl 3 rfl) ?_
      refine lv_iload_n hx hb dL_law_625 rfl (lv_at hl 0 rfl) ?_
      refine lv_iconst (v := 1) hx hb dL_law_626 (by decide) ?_
      refine lv_iadd hx hb dL_law_627 ?_
      refine lv_topi (fun y_55 ey_55 => ?_)
      obtain rfl : y_55 = 1 := ey_55.trans (by decide)
      refine va_sld hx hb hX hbl hbA hS (zf_in (by decide) (by decide)) dL_law_628 ?_
      refine lv_topi (fun y_56 ey_56 => ?_)
      obtain rfl : a_3 = y_56 := ea_3.trans ey_56.symm
      refine lv_aload_n hx hb dL_law_629 rfl (lv_at hl 3 rfl) ?_
      refine lv_iload_n hx hb dL_law_630 rfl (lv_at hl 0 rfl) ?_
      refine lv_iconst (v := 2) hx hb dL_law_631 (by decide) ?_
      refine lv_iadd hx hb dL_law_632 ?_
      refine lv_topi (fun y_57 ey_57 => ?_)
      obtain rfl : y_57 = 2 := ey_57.trans (by decide)
      refine va_sld hx hb hX hbl hbA hS (zf_in (by decide) (by decide)) dL_law_633 ?_
      refine lv_topi (fun y_58 ey_58 => ?_)
      obtain rfl : a_6 = y_58 := ea_6.trans ey_58.symm
      refine lv_if_eq (tgt := 641) hx hb dL_law_634 (by decide) (fun c_59 => ?_) (fun c_59 => ?_)
      · have fc_59 : a_6.toInt = 0 := zf_eq c_59 rfl (by decide)
        refine lv_iconst (v := 0) hx hb dL_law_641 (by decide) ?_
        have kc0 : (0 : Int32).toInt = 0 := by decide
        skip
        refine zw_V (As := [.int a_3, .int 0]) (rest := [.int 0]) (wr := [(mki, .inl (cI, 8, .inl (fun _ => 0))), (mpa, .inl (cI, 8, .inl (fun _ => 0))), (mta, .inl (cI, 8, .inl (fun _ => 0))), (msl, .inl (cI, 40, .inl (fun _ => 0))), (mco, .inl (cI, 3, .inl (zL3 5 10 50))), (mhe, .inl (cI, 8, .inl (fun _ => 0))), (mso, .inl (cI, 8, .inl (fun _ => 0))), (msi, .inl (cI, 8, .inl (fun _ => 0))), (msh, .inl (cI, 8, .inl (fun _ => 0))), (mce, .inl (cJ, 1280, .inr (.inl (fun _ => 0)))), (mca, .inl (cJ, 160, .inr (.inl (fun _ => 0)))), (mwo, .inl (cI, 64, .inl fw_)), (mnu, .inl (cI, 10, .inl fn_)), (mte, .inl (cI, 3, .inl (fun _ => 0))), (mwa, .inl (cI, 130, .inl (fun _ => 0))), (mke, .inl (cI, 130, .inl (fun _ => 0))), (mma, .inl (cI, 3, .inl (fun _ => 0))), (mth, .inl (cI, 3, .inl (fun _ => 0))), (mtr, .inl (cI, 20, .inl (fun _ => 0)))]) ⟨hx, hb, hml, hown, hts⟩ (c_M_lack l D cI cJ cZ cP cS m0 mrf mki mpa mta mla msl mco mhe mso msi msh mce mca mwo mnu mte mwa mke mma mth mtr (a_3) (0)  H.size) (cwV 2 hts gq_65 rfl rfl rfl (by decide +kernel) ⟨Nat.le_of_ble_eq_true rfl, Nat.le_of_ble_eq_true rfl⟩) hK hN (hZ.kept hS) hP hD hS hA [0, 1, 5] [2, 3, 4, 6, 7, 8, 9, 10, 11, 12, 13, 14, 15, 16, 17, 18, 19, 20, 21] rfl rfl (by decide) (by decide) (by decide) (va_recv hK hP (ci := 8) (q0 := 0) rfl rfl) rfl hl.1 rfl (Nat.le_of_ble_eq_true rfl) dL_law_642 ⟨Nat.le_of_ble_eq_true rfl, Nat.le_of_ble_eq_true rfl⟩ (fun r_60 u_61 H locs hr_60 hP hD hS => ?_)
        replace hP : va_P D vwCl [(mki, .inl (cI, 8, .inl (fun _ => 0))), (mpa, .inl (cI, 8, .inl (fun _ => 0))), (mta, .inl (cI, 8, .inl (fun _ => 0))), (msl, .inl (cI, 40, .inl (fun _ => 0))), (mco, .inl (cI, 3, .inl (zL3 5 10 50))), (mhe, .inl (cI, 8, .inl (fun _ => 0))), (mso, .inl (cI, 8, .inl (fun _ => 0))), (msi, .inl (cI, 8, .inl (fun _ => 0))), (msh, .inl (cI, 8, .inl (fun _ => 0))), (mce, .inl (cJ, 1280, .inr (.inl (fun _ => 0)))), (mca, .inl (cJ, 160, .inr (.inl (fun _ => 0)))), (mwo, .inl (cI, 64, .inl fw_)), (mnu, .inl (cI, 10, .inl fn_)), (mte, .inl (cI, 3, .inl (fun _ => 0))), (mwa, .inl (cI, 130, .inl (fun _ => 0))), (mke, .inl (cI, 130, .inl (fun _ => 0))), (mma, .inl (cI, 3, .inl (fun _ => 0))), (mth, .inl (cI, 3, .inl (fun _ => 0))), (mtr, .inl (cI, 20, .inl (fun _ => 0)))] H := hP
        replace hD : va_D _ [(mki, .inl (cI, 8, .inl (fun _ => 0))), (mpa, .inl (cI, 8, .inl (fun _ => 0))), (mta, .inl (cI, 8, .inl (fun _ => 0))), (msl, .inl (cI, 40, .inl (fun _ => 0))), (mco, .inl (cI, 3, .inl (zL3 5 10 50))), (mhe, .inl (cI, 8, .inl (fun _ => 0))), (mso, .inl (cI, 8, .inl (fun _ => 0))), (msi, .inl (cI, 8, .inl (fun _ => 0))), (msh, .inl (cI, 8, .inl (fun _ => 0))), (mce, .inl (cJ, 1280, .inr (.inl (fun _ => 0)))), (mca, .inl (cJ, 160, .inr (.inl (fun _ => 0)))), (mwo, .inl (cI, 64, .inl fw_)), (mnu, .inl (cI, 10, .inl fn_)), (mte, .inl (cI, 3, .inl (fun _ => 0))), (mwa, .inl (cI, 130, .inl (fun _ => 0))), (mke, .inl (cI, 130, .inl (fun _ => 0))), (mma, .inl (cI, 3, .inl (fun _ => 0))), (mth, .inl (cI, 3, .inl (fun _ => 0))), (mtr, .inl (cI, 20, .inl (fun _ => 0)))] := hD
        rcases hr_60 with ⟨rfl, g_62⟩ | ⟨rfl, g_63, g_64⟩ | ⟨rfl, g_65, g_66, g_67⟩ | ⟨rfl, g_68, g_69, g_70⟩
        · exfalso; omega
        · exfalso; omega
        · refine lv_icmp_eq (tgt := 1371) hx hb dL_law_645 (by decide) (fun c_71 => ?_) (fun c_71 => ?_)
          · refine lv_iinc (v := 6) (lv' := [(3, .int 6), (2, .ref m0), (1, .ref x0), (0, .ref b)]) hx hb dL_law_1371 hl (k := 0) rfl (by decide) (by decide) rfl (fun ls hl => ?_)
            refine lv_goto (tgt := 18) hx hb dL_law_1374 (by decide) ?_
            refine lv_iload_n hx hb dL_law_18 rfl (lv_at hl 0 rfl) ?_
            refine lv_aload_n hx hb dL_law_19 rfl (lv_at hl 3 rfl) ?_
            refine va_slen hx hb hX hbl hbA hS dL_law_20 ?_
            refine lv_topi (fun y_72 ey_72 => ?_)
            obtain rfl : y_72 = 6 := ey_72.trans (by decide)
            refine lv_bipush (v := 6) hx hb dL_law_21 (by decide) ?_
            refine lv_isub hx hb dL_law_23 ?_
            refine lv_topi (fun y_73 ey_73 => ?_)
            obtain rfl : y_73 = 0 := ey_73.trans (by decide)
            refine lv_icmp_gt (tgt := 1377) hx hb dL_law_24 (by decide) (fun c_74 => ?_) (fun c_74 => ?_)
            · refine lv_iconst (v := 1) hx hb dL_law_1377 (by decide) ?_
              refine va_forget (fun q hq => hS.2.2 q hq) ?_
              refine W.widen (k := 600000) (n := 7302250) (Nat.le_of_ble_eq_true rfl) (Nat.le_of_ble_eq_true rfl) ?_
              exact lw_ret hx hb hr hlocks dL_law_1378
            · exact absurd c_74 (by decide)
          · exact absurd c_71 (by decide)
        · exfalso; omega
      · exfalso; have fc_59 : a_6.toInt ≠ 0 := zf_ne c_59 rfl (by decide); omega
  · have fc_7 : a_6.toInt ≠ 0 := zf_ne c_7 rfl (by decide)
    refine lv_iconst (v := 1) hx hb dL_law_615 (by decide) ?_
    refine lv_goto (tgt := 620) hx hb dL_law_616 (by decide) ?_
    skip
    refine zw_V (As := [.int a_3, .int 1]) (rest := []) (wr := ((m0, .inr (8, (.int 0 :: .int 20 :: .int 0 :: .int 0 :: .int 0 :: .int 60 :: .int 0 :: .int 3 :: .int 1 :: .int (-1) :: .ref mrf :: .ref mki :: .ref mpa :: .ref mta :: .ref mla :: .ref msl :: .ref mco :: .ref mhe :: .ref mso :: .ref msi :: .ref msh :: .ref mce :: .ref mca :: .ref mwo :: .ref mnu :: .ref mte :: .int 0 :: .int 0 :: .int 0 :: .int 0 :: .int 0 :: .ref mwa :: .ref mke :: .ref mma :: .ref mth :: .ref mtr :: .int 0 :: .int 0 :: []))) :: (mrf, .inl (cI, 8, .inl (fun _ => 0))) :: (mki, .inl (cI, 8, .inl (fun _ => 0))) :: (mpa, .inl (cI, 8, .inl (fun _ => 0))) :: (mta, .inl (cI, 8, .inl (fun _ => 0))) :: (mla, .inl (cI, 40, .inl (fun _ => 0))) :: (msl, .inl (cI, 40, .inl (fun _ => 0))) :: (mco, .inl (cI, 3, .inl (zL3 5 10 50))) :: (mhe, .inl (cI, 8, .inl (fun _ => 0))) :: (mso, .inl (cI, 8, .inl (fun _ => 0))) :: (msi, .inl (cI, 8, .inl (fun _ => 0))) :: (msh, .inl (cI, 8, .inl (fun _ => 0))) :: (mce, .inl (cJ, 1280, .inr (.inl (fun _ => 0)))) :: (mca, .inl (cJ, 160, .inr (.inl (fun _ => 0)))) :: (mwo, .inl (cI, 64, .inl fw_)) :: (mnu, .inl (cI, 10, .inl fn_)) :: (mte, .inl (cI, 3, .inl (fun _ => 0))) :: (mwa, .inl (cI, 130, .inl (fun _ => 0))) :: (mke, .inl (cI, 130, .inl (fun _ => 0))) :: (mma, .inl (cI, 3, .inl (fun _ => 0))) :: (mth, .inl (cI, 3, .inl (fun _ => 0))) :: (mtr, .inl (cI, 20, .inl (fun _ => 0))) :: [])) ⟨hx, hb, hml, hown, hts⟩ (c_lack l D cI cJ cZ cP cS x0 xs j0 k0 w0 rd mv xr jp jc z0 zl zs (a_3) (1)  H.size) (cwV 2 hts gq_61 rfl rfl rfl (by decide +kernel) ⟨Nat.le_of_ble_eq_true rfl, Nat.le_of_ble_eq_true rfl⟩) hK hN (hZ.kept hS) hP hD hS hA [0, 24, 2, 3, 4] [41, 42, 43, 44, 45, 46, 47, 48, 49, 50, 51, 52, 53, 54, 55, 56, 57, 58, 59, 60, 61, 62] rfl rfl (by decide) (by decide) (by decide) (va_recv hK hP (ci := 7) (q0 := 0) rfl rfl) rfl hl.1 rfl (Nat.le_of_ble_eq_true rfl) dL_law_620 ⟨Nat.le_of_ble_eq_true rfl, Nat.le_of_ble_eq_true rfl⟩ (fun r_75 u_76 H locs hr_75 hP hD hS => ?_)
    replace hP : va_P D vwCl ((m0, .inr (8, (.int 0 :: .int 20 :: .int 0 :: .int 0 :: .int 0 :: .int 60 :: .int 0 :: .int 3 :: .int 1 :: .int (-1) :: .ref mrf :: .ref mki :: .ref mpa :: .ref mta :: .ref mla :: .ref msl :: .ref mco :: .ref mhe :: .ref mso :: .ref msi :: .ref msh :: .ref mce :: .ref mca :: .ref mwo :: .ref mnu :: .ref mte :: .int 0 :: .int 0 :: .int 0 :: .int 0 :: .int 0 :: .ref mwa :: .ref mke :: .ref mma :: .ref mth :: .ref mtr :: .int 0 :: .int 0 :: []))) :: (mrf, .inl (cI, 8, .inl (fun _ => 0))) :: (mki, .inl (cI, 8, .inl (fun _ => 0))) :: (mpa, .inl (cI, 8, .inl (fun _ => 0))) :: (mta, .inl (cI, 8, .inl (fun _ => 0))) :: (mla, .inl (cI, 40, .inl (fun _ => 0))) :: (msl, .inl (cI, 40, .inl (fun _ => 0))) :: (mco, .inl (cI, 3, .inl (zL3 5 10 50))) :: (mhe, .inl (cI, 8, .inl (fun _ => 0))) :: (mso, .inl (cI, 8, .inl (fun _ => 0))) :: (msi, .inl (cI, 8, .inl (fun _ => 0))) :: (msh, .inl (cI, 8, .inl (fun _ => 0))) :: (mce, .inl (cJ, 1280, .inr (.inl (fun _ => 0)))) :: (mca, .inl (cJ, 160, .inr (.inl (fun _ => 0)))) :: (mwo, .inl (cI, 64, .inl fw_)) :: (mnu, .inl (cI, 10, .inl fn_)) :: (mte, .inl (cI, 3, .inl (fun _ => 0))) :: (mwa, .inl (cI, 130, .inl (fun _ => 0))) :: (mke, .inl (cI, 130, .inl (fun _ => 0))) :: (mma, .inl (cI, 3, .inl (fun _ => 0))) :: (mth, .inl (cI, 3, .inl (fun _ => 0))) :: (mtr, .inl (cI, 20, .inl (fun _ => 0))) :: []) H := hP
    replace hD : va_D _ ((m0, .inr (8, (.int 0 :: .int 20 :: .int 0 :: .int 0 :: .int 0 :: .int 60 :: .int 0 :: .int 3 :: .int 1 :: .int (-1) :: .ref mrf :: .ref mki :: .ref mpa :: .ref mta :: .ref mla :: .ref msl :: .ref mco :: .ref mhe :: .ref mso :: .ref msi :: .ref msh :: .ref mce :: .ref mca :: .ref mwo :: .ref mnu :: .ref mte :: .int 0 :: .int 0 :: .int 0 :: .int 0 :: .int 0 :: .ref mwa :: .ref mke :: .ref mma :: .ref mth :: .ref mtr :: .int 0 :: .int 0 :: []))) :: (mrf, .inl (cI, 8, .inl (fun _ => 0))) :: (mki, .inl (cI, 8, .inl (fun _ => 0))) :: (mpa, .inl (cI, 8, .inl (fun _ => 0))) :: (mta, .inl (cI, 8, .inl (fun _ => 0))) :: (mla, .inl (cI, 40, .inl (fun _ => 0))) :: (msl, .inl (cI, 40, .inl (fun _ => 0))) :: (mco, .inl (cI, 3, .inl (zL3 5 10 50))) :: (mhe, .inl (cI, 8, .inl (fun _ => 0))) :: (mso, .inl (cI, 8, .inl (fun _ => 0))) :: (msi, .inl (cI, 8, .inl (fun _ => 0))) :: (msh, .inl (cI, 8, .inl (fun _ => 0))) :: (mce, .inl (cJ, 1280, .inr (.inl (fun _ => 0)))) :: (mca, .inl (cJ, 160, .inr (.inl (fun _ => 0)))) :: (mwo, .inl (cI, 64, .inl fw_)) :: (mnu, .inl (cI, 10, .inl fn_)) :: (mte, .inl (cI, 3, .inl (fun _ => 0))) :: (mwa, .inl (cI, 130, .inl (fun _ => 0))) :: (mke, .inl (cI, 130, .inl (fun _ => 0))) :: (mma, .inl (cI, 3, .inl (fun _ => 0))) :: (mth, .inl (cI, 3, .inl (fun _ => 0))) :: (mtr, .inl (cI, 20, .inl (fun _ => 0))) :: []) := hD
    rcases hr_75 with ⟨rfl, g_77⟩ | ⟨rfl, g_78, g_79⟩ | ⟨rfl, g_80, g_81⟩
    · refine lv_aload_n hx hb dL_law_623 rfl (lv_at hl 1 rfl) ?_
      refine lv_aload_n hx hb dL_law_624 rfl (lv_at hl 3 rfl) ?_
      refine lv_iload_n hx hb dL_law_625 rfl (lv_at hl 0 rfl) ?_
      refine lv_iconst (v := 1) hx hb dL_law_626 (by decide) ?_
      refine lv_iadd hx hb dL_law_627 ?_
      refine lv_topi (fun y_82 ey_82 => ?_)
      obtain rfl : y_82 = 1 := ey_82.trans (by decide)
      refine va_sld hx hb hX hbl hbA hS (zf_in (by decide) (by decide)) dL_law_628 ?_
      refine lv_topi (fun y_83 ey_83 => ?_)
      obtain rfl : a_3 = y_83 := ea_3.trans ey_83.symm
      refine lv_aload_n hx hb dL_law_629 rfl (lv_at hl 3 rfl) ?_
      refine lv_iload_n hx hb dL_law_630 rfl (lv_at hl 0 rfl) ?_
      refine lv_iconst (v := 2) hx hb dL_law_631 (by decide) ?_
      refine lv_iadd hx hb dL_law_632 ?_
      refine lv_topi (fun y_84 ey_84 => ?_)
      obtain rfl : y_84 = 2 := ey_84.trans (by decide)
      refine va_sld hx hb hX hbl hbA hS (zf_in (by decide) (by decide)) dL_law_633 ?_
      refine lv_topi (fun y_85 ey_85 => ?_)
      obtain rfl : a_6 = y_85 := ea_6.trans ey_85.symm
      refine lv_if_eq (tgt := 641) hx hb dL_law_634 (by decide) (fun c_86 => ?_) (fun c_86 => ?_)
      · have fc_86 : a_6.toInt = 0 := zf_eq c_86 rfl (by decide)
        refine lv_iconst (v := 0) hx hb dL_law_641 (by decide) ?_
        have kc0 : (0 : Int32).toInt = 0 := by decide
        skip
        refine zw_V (As := [.int a_3, .int 0]) (rest := [.int (-1)]) (wr := [(mki, .inl (cI, 8, .inl (fun _ => 0))), (mpa, .inl (cI, 8, .inl (fun _ => 0))), (mta, .inl (cI, 8, .inl (fun _ => 0))), (msl, .inl (cI, 40, .inl (fun _ => 0))), (mco, .inl (cI, 3, .inl (zL3 5 10 50))), (mhe, .inl (cI, 8, .inl (fun _ => 0))), (mso, .inl (cI, 8, .inl (fun _ => 0))), (msi, .inl (cI, 8, .inl (fun _ => 0))), (msh, .inl (cI, 8, .inl (fun _ => 0))), (mce, .inl (cJ, 1280, .inr (.inl (fun _ => 0)))), (mca, .inl (cJ, 160, .inr (.inl (fun _ => 0)))), (mwo, .inl (cI, 64, .inl fw_)), (mnu, .inl (cI, 10, .inl fn_)), (mte, .inl (cI, 3, .inl (fun _ => 0))), (mwa, .inl (cI, 130, .inl (fun _ => 0))), (mke, .inl (cI, 130, .inl (fun _ => 0))), (mma, .inl (cI, 3, .inl (fun _ => 0))), (mth, .inl (cI, 3, .inl (fun _ => 0))), (mtr, .inl (cI, 20, .inl (fun _ => 0)))]) ⟨hx, hb, hml, hown, hts⟩ (c_M_lack l D cI cJ cZ cP cS m0 mrf mki mpa mta mla msl mco mhe mso msi msh mce mca mwo mnu mte mwa mke mma mth mtr (a_3) (0)  H.size) (cwV 2 hts gq_65 rfl rfl rfl (by decide +kernel) ⟨Nat.le_of_ble_eq_true rfl, Nat.le_of_ble_eq_true rfl⟩) hK hN (hZ.kept hS) hP hD hS hA [0, 1, 5] [2, 3, 4, 6, 7, 8, 9, 10, 11, 12, 13, 14, 15, 16, 17, 18, 19, 20, 21] rfl rfl (by decide) (by decide) (by decide) (va_recv hK hP (ci := 8) (q0 := 0) rfl rfl) rfl hl.1 rfl (Nat.le_of_ble_eq_true rfl) dL_law_642 ⟨Nat.le_of_ble_eq_true rfl, Nat.le_of_ble_eq_true rfl⟩ (fun r_87 u_88 H locs hr_87 hP hD hS => ?_)
        replace hP : va_P D vwCl [(mki, .inl (cI, 8, .inl (fun _ => 0))), (mpa, .inl (cI, 8, .inl (fun _ => 0))), (mta, .inl (cI, 8, .inl (fun _ => 0))), (msl, .inl (cI, 40, .inl (fun _ => 0))), (mco, .inl (cI, 3, .inl (zL3 5 10 50))), (mhe, .inl (cI, 8, .inl (fun _ => 0))), (mso, .inl (cI, 8, .inl (fun _ => 0))), (msi, .inl (cI, 8, .inl (fun _ => 0))), (msh, .inl (cI, 8, .inl (fun _ => 0))), (mce, .inl (cJ, 1280, .inr (.inl (fun _ => 0)))), (mca, .inl (cJ, 160, .inr (.inl (fun _ => 0)))), (mwo, .inl (cI, 64, .inl fw_)), (mnu, .inl (cI, 10, .inl fn_)), (mte, .inl (cI, 3, .inl (fun _ => 0))), (mwa, .inl (cI, 130, .inl (fun _ => 0))), (mke, .inl (cI, 130, .inl (fun _ => 0))), (mma, .inl (cI, 3, .inl (fun _ => 0))), (mth, .inl (cI, 3, .inl (fun _ => 0))), (mtr, .inl (cI, 20, .inl (fun _ => 0)))] H := hP
        replace hD : va_D _ [(mki, .inl (cI, 8, .inl (fun _ => 0))), (mpa, .inl (cI, 8, .inl (fun _ => 0))), (mta, .inl (cI, 8, .inl (fun _ => 0))), (msl, .inl (cI, 40, .inl (fun _ => 0))), (mco, .inl (cI, 3, .inl (zL3 5 10 50))), (mhe, .inl (cI, 8, .inl (fun _ => 0))), (mso, .inl (cI, 8, .inl (fun _ => 0))), (msi, .inl (cI, 8, .inl (fun _ => 0))), (msh, .inl (cI, 8, .inl (fun _ => 0))), (mce, .inl (cJ, 1280, .inr (.inl (fun _ => 0)))), (mca, .inl (cJ, 160, .inr (.inl (fun _ => 0)))), (mwo, .inl (cI, 64, .inl fw_)), (mnu, .inl (cI, 10, .inl fn_)), (mte, .inl (cI, 3, .inl (fun _ => 0))), (mwa, .inl (cI, 130, .inl (fun _ => 0))), (mke, .inl (cI, 130, .inl (fun _ => 0))), (mma, .inl (cI, 3, .inl (fun _ => 0))), (mth, .inl (cI, 3, .inl (fun _ => 0))), (mtr, .inl (cI, 20, .inl (fun _ => 0)))] := hD
        rcases hr_87 with ⟨rfl, g_89⟩ | ⟨rfl, g_90, g_91⟩ | ⟨rfl, g_92, g_93, g_94⟩ | ⟨rfl, g_95, g_96, g_97⟩
        · refine lv_icmp_eq (tgt := 1371) hx hb dL_law_645 (by decide) (fun c_98 => ?_) (fun c_98 => ?_)
          · refine lv_iinc (v := 6) (lv' := [(3, .int 6), (2, .ref m0), (1, .ref x0), (0, .ref b)]) hx hb dL_law_1371 hl (k := 0) rfl (by decide) (by decide) rfl (fun ls hl => ?_)
            refine lv_goto (tgt := 18) hx hb dL_law_1374 (by decide) ?_
            refine lv_iload_n hx hb dL_law_18 rfl (lv_at hl 0 rfl) ?_
            refine lv_aload_n hx hb dL_law_19 rfl (lv_at hl 3 rfl) ?_
            refine va_slen hx hb hX hbl hbA hS dL_law_20 ?_
            refine lv_topi (fun y_99 ey_99 => ?_)
            obtain rfl : y_99 = 6 := ey_99.trans (by decide)
            refine lv_bipush (v := 6) hx hb dL_law_21 (by decide) ?_
            refine lv_isub hx hb dL_law_23 ?_
            refine lv_topi (fun y_100 ey_100 => ?_)
            obtain rfl : y_100 = 0 := ey_100.trans (by decide)
            refine lv_icmp_gt (tgt := 1377) hx hb dL_law_24 (by decide) (fun c_101 => ?_) (fun c_101 => ?_)
            · refine lv_iconst (v := 1) hx hb dL_law_1377 (by decide) ?_
              refine va_forget (fun q hq => hS.2.2 q hq) ?_
              refine W.widen (k := 600000) (n := 7302250) (Nat.le_of_ble_eq_true rfl) (Nat.le_of_ble_eq_true rfl) ?_
              exact lw_ret hx hb hr hlocks dL_law_1378
            · exact absurd c_101 (by decide)
          · exact absurd c_98 (by decide)
        · exfalso; omega
        · exfalso; omega
        · exfalso; omega
      · have fc_86 : a_6.toInt ≠ 0 := zf_ne c_86 rfl (by decide)
        refine lv_iconst (v := 1) hx hb dL_law_637 (by decide) ?_
        refine lv_goto (tgt := 642) hx hb dL_law_638 (by decide) ?_
        have kc1 : (1 : Int32).toInt = 1 := by decide
        skip
        refine zw_V (As := [.int a_3, .int 1]) (rest := [.int (-1)]) (wr := [(mki, .inl (cI, 8, .inl (fun _ => 0))), (mpa, .inl (cI, 8, .inl (fun _ => 0))), (mta, .inl (cI, 8, .inl (fun _ => 0))), (msl, .inl (cI, 40, .inl (fun _ => 0))), (mco, .inl (cI, 3, .inl (zL3 5 10 50))), (mhe, .inl (cI, 8, .inl (fun _ => 0))), (mso, .inl (cI, 8, .inl (fun _ => 0))), (msi, .inl (cI, 8, .inl (fun _ => 0))), (msh, .inl (cI, 8, .inl (fun _ => 0))), (mce, .inl (cJ, 1280, .inr (.inl (fun _ => 0)))), (mca, .inl (cJ, 160, .inr (.inl (fun _ => 0)))), (mwo, .inl (cI, 64, .inl fw_)), (mnu, .inl (cI, 10, .inl fn_)), (mte, .inl (cI, 3, .inl (fun _ => 0))), (mwa, .inl (cI, 130, .inl (fun _ => 0))), (mke, .inl (cI, 130, .inl (fun _ => 0))), (mma, .inl (cI, 3, .inl (fun _ => 0))), (mth, .inl (cI, 3, .inl (fun _ => 0))), (mtr, .inl (cI, 20, .inl (fun _ => 0)))]) ⟨hx, hb, hml, hown, hts⟩ (c_M_lack l D cI cJ cZ cP cS m0 mrf mki mpa mta mla msl mco mhe mso msi msh mce mca mwo mnu mte mwa mke mma mth mtr (a_3) (1)  H.size) (cwV 2 hts gq_65 rfl rfl rfl (by decide +kernel) ⟨Nat.le_of_ble_eq_true rfl, Nat.le_of_ble_eq_true rfl⟩) hK hN (hZ.kept hS) hP hD hS hA [0, 1, 5] [2, 3, 4, 6, 7, 8, 9, 10, 11, 12, 13, 14, 15, 16, 17, 18, 19, 20, 21] rfl rfl (by decide) (by decide) (by decide) (va_recv hK hP (ci := 8) (q0 := 0) rfl rfl) rfl hl.1 rfl (Nat.le_of_ble_eq_true rfl) dL_law_642 ⟨Nat.le_of_ble_eq_true rfl, Nat.le_of_ble_eq_true rfl⟩ (fun r_102 u_103 H locs hr_102 hP hD hS => ?_)
        replace hP : va_P D vwCl [(mki, .inl (cI, 8, .inl (fun _ => 0))), (mpa, .inl (cI, 8, .inl (fun _ => 0))), (mta, .inl (cI, 8, .inl (fun _ => 0))), (msl, .inl (cI, 40, .inl (fun _ => 0))), (mco, .inl (cI, 3, .inl (zL3 5 10 50))), (mhe, .inl (cI, 8, .inl (fun _ => 0))), (mso, .inl (cI, 8, .inl (fun _ => 0))), (msi, .inl (cI, 8, .inl (fun _ => 0))), (msh, .inl (cI, 8, .inl (fun _ => 0))), (mce, .inl (cJ, 1280, .inr (.inl (fun _ => 0)))), (mca, .inl (cJ, 160, .inr (.inl (fun _ => 0)))), (mwo, .inl (cI, 64, .inl fw_)), (mnu, .inl (cI, 10, .inl fn_)), (mte, .inl (cI, 3, .inl (fun _ => 0))), (mwa, .inl (cI, 130, .inl (fun _ => 0))), (mke, .inl (cI, 130, .inl (fun _ => 0))), (mma, .inl (cI, 3, .inl (fun _ => 0))), (mth, .inl (cI, 3, .inl (fun _ => 0))), (mtr, .inl (cI, 20, .inl (fun _ => 0)))] H := hP
        replace hD : va_D _ [(mki, .inl (cI, 8, .inl (fun _ => 0))), (mpa, .inl (cI, 8, .inl (fun _ => 0))), (mta, .inl (cI, 8, .inl (fun _ => 0))), (msl, .inl (cI, 40, .inl (fun _ => 0))), (mco, .inl (cI, 3, .inl (zL3 5 10 50))), (mhe, .inl (cI, 8, .inl (fun _ => 0))), (mso, .inl (cI, 8, .inl (fun _ => 0))), (msi, .inl (cI, 8, .inl (fun _ => 0))), (msh, .inl (cI, 8, .inl (fun _ => 0))), (mce, .inl (cJ, 1280, .inr (.inl (fun _ => 0)))), (mca, .inl (cJ, 160, .inr (.inl (fun _ => 0)))), (mwo, .inl (cI, 64, .inl fw_)), (mnu, .inl (cI, 10, .inl fn_)), (mte, .inl (cI, 3, .inl (fun _ => 0))), (mwa, .inl (cI, 130, .inl (fun _ => 0))), (mke, .inl (cI, 130, .inl (fun _ => 0))), (mma, .inl (cI, 3, .inl (fun _ => 0))), (mth, .inl (cI, 3, .inl (fun _ => 0))), (mtr, .inl (cI, 20, .inl (fun _ => 0)))] := hD
        rcases hr_102 with ⟨rfl, g_104⟩ | ⟨rfl, g_105, g_106⟩ | ⟨rfl, g_107, g_108, g_109⟩ | ⟨rfl, g_110, g_111, g_112⟩
        · refine lv_icmp_eq (tgt := 1371) hx hb dL_law_645 (by decide) (fun c_113 => ?_) (fun c_113 => ?_)
          · refine lv_iinc (v := 6) (lv' := [(3, .int 6), (2, .ref m0), (1, .ref x0), (0, .ref b)]) hx hb dL_law_1371 hl (k := 0) rfl (by decide) (by decide) rfl (fun ls hl => ?_)
            refine lv_goto (tgt := 18) hx hb dL_law_1374 (by decide) ?_
            refine lv_iload_n hx hb dL_law_18 rfl (lv_at hl 0 rfl) ?_
            refine lv_aload_n hx hb dL_law_19 rfl (lv_at hl 3 rfl) ?_
            refine va_slen hx hb hX hbl hbA hS dL_law_20 ?_
            refine lv_topi (fun y_114 ey_114 => ?_)
            obtain rfl : y_114 = 6 := ey_114.trans (by decide)
            refine lv_bipush (v := 6) hx hb dL_law_21 (by decide) ?_
            refine lv_isub hx hb dL_law_23 ?_
            refine lv_topi (fun y_115 ey_115 => ?_)
            obtain rfl : y_115 = 0 := ey_115.trans (by decide)
            refine lv_icmp_gt (tgt := 1377) hx hb dL_law_24 (by decide) (fun c_116 => ?_) (fun c_116 => ?_)
            · refine lv_iconst (v := 1) hx hb dL_law_1377 (by decide) ?_
              refine va_forget (fun q hq => hS.2.2 q hq) ?_
              refine W.widen (k := 600000) (n := 7302250) (Nat.le_of_ble_eq_true rfl) (Nat.le_of_ble_eq_true rfl) ?_
              exact lw_ret hx hb hr hlocks dL_law_1378
            · exact absurd c_116 (by decide)
          · exact absurd c_113 (by decide)
        · exfalso; omega
        · exfalso; omega
        · exfalso; omega
    · refine lv_aload_n hx hb dL_law_623 rfl (lv_at hl 1 rfl) ?_
      refine lv_aload_n hx hb dL_law_624 rfl (lv_at hl 3 rfl) ?_
      refine lv_iload_n hx hb dL_law_625 rfl (lv_at hl 0 rfl) ?_
      refine lv_iconst (v := 1) hx hb dL_law_626 (by decide) ?_
      refine lv_iadd hx hb dL_law_627 ?_
      refine lv_topi (fun y_117 ey_117 => ?_)
      obtain rfl : y_117 = 1 := ey_117.trans (by decide)
      refine va_sld hx hb hX hbl hbA hS (zf_in (by decide) (by decide)) dL_law_628 ?_
      refine lv_topi (fun y_118 ey_118 => ?_)
      obtain rfl : a_3 = y_118 := ea_3.trans ey_118.symm
      refine lv_aload_n hx hb dL_law_629 rfl (lv_at hl 3 rfl) ?_
      refine lv_iload_n hx hb dL_law_630 rfl (lv_at hl 0 rfl) ?_
      refine lv_iconst (v := 2) hx hb dL_law_631 (by decide) ?_
      refine lv_iadd hx hb dL_law_632 ?_
      refine lv_topi (fun y_119 ey_119 => ?_)
      obtain rfl : y_119 = 2 := ey_119.trans (by decide)
      refine va_sld hx hb hX hbl hbA hS (zf_in (by decide) (by decide)) dL_law_633 ?_
      refine lv_topi (fun y_120 ey_120 => ?_)
      obtain rfl : a_6 = y_120 := ea_6.trans ey_120.symm
      refine lv_if_eq (tgt := 641) hx hb dL_law_634 (by decide) (fun c_121 => ?_) (fun c_121 => ?_)
      · have fc_121 : a_6.toInt = 0 := zf_eq c_121 rfl (by decide)
        refine lv_iconst (v := 0) hx hb dL_law_641 (by decide) ?_
        have kc0 : (0 : Int32).toInt = 0 := by decide
        skip
        refine zw_V (As := [.int a_3, .int 0]) (rest := [.int (-1)]) (wr := [(mki, .inl (cI, 8, .inl (fun _ => 0))), (mpa, .inl (cI, 8, .inl (fun _ => 0))), (mta, .inl (cI, 8, .inl (fun _ => 0))), (msl, .inl (cI, 40, .inl (fun _ => 0))), (mco, .inl (cI, 3, .inl (zL3 5 10 50))), (mhe, .inl (cI, 8, .inl (fun _ => 0))), (mso, .inl (cI, 8, .inl (fun _ => 0))), (msi, .inl (cI, 8, .inl (fun _ => 0))), (msh, .inl (cI, 8, .inl (fun _ => 0))), (mce, .inl (cJ, 1280, .inr (.inl (fun _ => 0)))), (mca, .inl (cJ, 160, .inr (.inl (fun _ => 0)))), (mwo, .inl (cI, 64, .inl fw_)), (mnu, .inl (cI, 10, .inl fn_)), (mte, .inl (cI, 3, .inl (fun _ => 0))), (mwa, .inl (cI, 130, .inl (fun _ => 0))), (mke, .inl (cI, 130, .inl (fun _ => 0))), (mma, .inl (cI, 3, .inl (fun _ => 0))), (mth, .inl (cI, 3, .inl (fun _ => 0))), (mtr, .inl (cI, 20, .inl (fun _ => 0)))]) ⟨hx, hb, hml, hown, hts⟩ (c_M_lack l D cI cJ cZ cP cS m0 mrf mki mpa mta mla msl mco mhe mso msi msh mce mca mwo mnu mte mwa mke mma mth mtr (a_3) (0)  H.size) (cwV 2 hts gq_65 rfl rfl rfl (by decide +kernel) ⟨Nat.le_of_ble_eq_true rfl, Nat.le_of_ble_eq_true rfl⟩) hK hN (hZ.kept hS) hP hD hS hA [0, 1, 5] [2, 3, 4, 6, 7, 8, 9, 10, 11, 12, 13, 14, 15, 16, 17, 18, 19, 20, 21] rfl rfl (by decide) (by decide) (by decide) (va_recv hK hP (ci := 8) (q0 := 0) rfl rfl) rfl hl.1 rfl (Nat.le_of_ble_eq_true rfl) dL_law_642 ⟨Nat.le_of_ble_eq_true rfl, Nat.le_of_ble_eq_true rfl⟩ (fun r_122 u_123 H locs hr_122 hP hD hS => ?_)
        replace hP : va_P D vwCl [(mki, .inl (cI, 8, .inl (fun _ => 0))), (mpa, .inl (cI, 8, .inl (fun _ => 0))), (mta, .inl (cI, 8, .inl (fun _ => 0))), (msl, .inl (cI, 40, .inl (fun _ => 0))), (mco, .inl (cI, 3, .inl (zL3 5 10 50))), (mhe, .inl (cI, 8, .inl (fun _ => 0))), (mso, .inl (cI, 8, .inl (fun _ => 0))), (msi, .inl (cI, 8, .inl (fun _ => 0))), (msh, .inl (cI, 8, .inl (fun _ => 0))), (mce, .inl (cJ, 1280, .inr (.inl (fun _ => 0)))), (mca, .inl (cJ, 160, .inr (.inl (fun _ => 0)))), (mwo, .inl (cI, 64, .inl fw_)), (mnu, .inl (cI, 10, .inl fn_)), (mte, .inl (cI, 3, .inl (fun _ => 0))), (mwa, .inl (cI, 130, .inl (fun _ => 0))), (mke, .inl (cI, 130, .inl (fun _ => 0))), (mma, .inl (cI, 3, .inl (fun _ => 0))), (mth, .inl (cI, 3, .inl (fun _ => 0))), (mtr, .inl (cI, 20, .inl (fun _ => 0)))] H := hP
        replace hD : va_D _ [(mki, .inl (cI, 8, .inl (fun _ => 0))), (mpa, .inl (cI, 8, .inl (fun _ => 0))), (mta, .inl (cI, 8, .inl (fun _ => 0))), (msl, .inl (cI, 40, .inl (fun _ => 0))), (mco, .inl (cI, 3, .inl (zL3 5 10 50))), (mhe, .inl (cI, 8, .inl (fun _ => 0))), (mso, .inl (cI, 8, .inl (fun _ => 0))), (msi, .inl (cI, 8, .inl (fun _ => 0))), (msh, .inl (cI, 8, .inl (fun _ => 0))), (mce, .inl (cJ, 1280, .inr (.inl (fun _ => 0)))), (mca, .inl (cJ, 160, .inr (.inl (fun _ => 0)))), (mwo, .inl (cI, 64, .inl fw_)), (mnu, .inl (cI, 10, .inl fn_)), (mte, .inl (cI, 3, .inl (fun _ => 0))), (mwa, .inl (cI, 130, .inl (fun _ => 0))), (mke, .inl (cI, 130, .inl (fun _ => 0))), (mma, .inl (cI, 3, .inl (fun _ => 0))), (mth, .inl (cI, 3, .inl (fun _ => 0))), (mtr, .inl (cI, 20, .inl (fun _ => 0)))] := hD
        rcases hr_122 with ⟨rfl, g_124⟩ | ⟨rfl, g_125, g_126⟩ | ⟨rfl, g_127, g_128, g_129⟩ | ⟨rfl, g_130, g_131, g_132⟩
        · exfalso; omega
        · refine lv_icmp_eq (tgt := 1371) hx hb dL_law_645 (by decide) (fun c_133 => ?_) (fun c_133 => ?_)
          · refine lv_iinc (v := 6) (lv' := [(3, .int 6), (2, .ref m0), (1, .ref x0), (0, .ref b)]) hx hb dL_law_1371 hl (k := 0) rfl (by decide) (by decide) rfl (fun ls hl => ?_)
            refine lv_goto (tgt := 18) hx hb dL_law_1374 (by decide) ?_
            refine lv_iload_n hx hb dL_law_18 rfl (lv_at hl 0 rfl) ?_
            refine lv_aload_n hx hb dL_law_19 rfl (lv_at hl 3 rfl) ?_
            refine va_slen hx hb hX hbl hbA hS dL_law_20 ?_
            refine lv_topi (fun y_134 ey_134 => ?_)
            obtain rfl : y_134 = 6 := ey_134.trans (by decide)
            refine lv_bipush (v := 6) hx hb dL_law_21 (by decide) ?_
            refine lv_isub hx hb dL_law_23 ?_
            refine lv_topi (fun y_135 ey_135 => ?_)
            obtain rfl : y_135 = 0 := ey_135.trans (by decide)
            refine lv_icmp_gt (tgt := 1377) hx hb dL_law_24 (by decide) (fun c_136 => ?_) (fun c_136 => ?_)
            · refine lv_iconst (v := 1) hx hb dL_law_1377 (by decide) ?_
              refine va_forget (fun q hq => hS.2.2 q hq) ?_
              refine W.widen (k := 600000) (n := 7302250) (Nat.le_of_ble_eq_true rfl) (Nat.le_of_ble_eq_true rfl) ?_
              exact lw_ret hx hb hr hlocks dL_law_1378
            · exact absurd c_136 (by decide)
          · exact absurd c_133 (by decide)
        · exfalso; omega
        · exfalso; omega
      · have fc_121 : a_6.toInt ≠ 0 := zf_ne c_121 rfl (by decide)
        refine lv_iconst (v := 1) hx hb dL_law_637 (by decide) ?_
        refine lv_goto (tgt := 642) hx hb dL_law_638 (by decide) ?_
        have kc1 : (1 : Int32).toInt = 1 := by decide
        skip
        refine zw_V (As := [.int a_3, .int 1]) (rest := [.int (-1)]) (wr := [(mki, .inl (cI, 8, .inl (fun _ => 0))), (mpa, .inl (cI, 8, .inl (fun _ => 0))), (mta, .inl (cI, 8, .inl (fun _ => 0))), (msl, .inl (cI, 40, .inl (fun _ => 0))), (mco, .inl (cI, 3, .inl (zL3 5 10 50))), (mhe, .inl (cI, 8, .inl (fun _ => 0))), (mso, .inl (cI, 8, .inl (fun _ => 0))), (msi, .inl (cI, 8, .inl (fun _ => 0))), (msh, .inl (cI, 8, .inl (fun _ => 0))), (mce, .inl (cJ, 1280, .inr (.inl (fun _ => 0)))), (mca, .inl (cJ, 160, .inr (.inl (fun _ => 0)))), (mwo, .inl (cI, 64, .inl fw_)), (mnu, .inl (cI, 10, .inl fn_)), (mte, .inl (cI, 3, .inl (fun _ => 0))), (mwa, .inl (cI, 130, .inl (fun _ => 0))), (mke, .inl (cI, 130, .inl (fun _ => 0))), (mma, .inl (cI, 3, .inl (fun _ => 0))), (mth, .inl (cI, 3, .inl (fun _ => 0))), (mtr, .inl (cI, 20, .inl (fun _ => 0)))]) ⟨hx, hb, hml, hown, hts⟩ (c_M_lack l D cI cJ cZ cP cS m0 mrf mki mpa mta mla msl mco mhe mso msi msh mce mca mwo mnu mte mwa mke mma mth mtr (a_3) (1)  H.size) (cwV 2 hts gq_65 rfl rfl rfl (by decide +kernel) ⟨Nat.le_of_ble_eq_true rfl, Nat.le_of_ble_eq_true rfl⟩) hK hN (hZ.kept hS) hP hD hS hA [0, 1, 5] [2, 3, 4, 6, 7, 8, 9, 10, 11, 12, 13, 14, 15, 16, 17, 18, 19, 20, 21] rfl rfl (by decide) (by decide) (by decide) (va_recv hK hP (ci := 8) (q0 := 0) rfl rfl) rfl hl.1 rfl (Nat.le_of_ble_eq_true rfl) dL_law_642 ⟨Nat.le_of_ble_eq_true rfl, Nat.le_of_ble_eq_true rfl⟩ (fun r_137 u_138 H locs hr_137 hP hD hS => ?_)
        replace hP : va_P D vwCl [(mki, .inl (cI, 8, .inl (fun _ => 0))), (mpa, .inl (cI, 8, .inl (fun _ => 0))), (mta, .inl (cI, 8, .inl (fun _ => 0))), (msl, .inl (cI, 40, .inl (fun _ => 0))), (mco, .inl (cI, 3, .inl (zL3 5 10 50))), (mhe, .inl (cI, 8, .inl (fun _ => 0))), (mso, .inl (cI, 8, .inl (fun _ => 0))), (msi, .inl (cI, 8, .inl (fun _ => 0))), (msh, .inl (cI, 8, .inl (fun _ => 0))), (mce, .inl (cJ, 1280, .inr (.inl (fun _ => 0)))), (mca, .inl (cJ, 160, .inr (.inl (fun _ => 0)))), (mwo, .inl (cI, 64, .inl fw_)), (mnu, .inl (cI, 10, .inl fn_)), (mte, .inl (cI, 3, .inl (fun _ => 0))), (mwa, .inl (cI, 130, .inl (fun _ => 0))), (mke, .inl (cI, 130, .inl (fun _ => 0))), (mma, .inl (cI, 3, .inl (fun _ => 0))), (mth, .inl (cI, 3, .inl (fun _ => 0))), (mtr, .inl (cI, 20, .inl (fun _ => 0)))] H := hP
        replace hD : va_D _ [(mki, .inl (cI, 8, .inl (fun _ => 0))), (mpa, .inl (cI, 8, .inl (fun _ => 0))), (mta, .inl (cI, 8, .inl (fun _ => 0))), (msl, .inl (cI, 40, .inl (fun _ => 0))), (mco, .inl (cI, 3, .inl (zL3 5 10 50))), (mhe, .inl (cI, 8, .inl (fun _ => 0))), (mso, .inl (cI, 8, .inl (fun _ => 0))), (msi, .inl (cI, 8, .inl (fun _ => 0))), (msh, .inl (cI, 8, .inl (fun _ => 0))), (mce, .inl (cJ, 1280, .inr (.inl (fun _ => 0)))), (mca, .inl (cJ, 160, .inr (.inl (fun _ => 0)))), (mwo, .inl (cI, 64, .inl fw_)), (mnu, .inl (cI, 10, .inl fn_)), (mte, .inl (cI, 3, .inl (fun _ => 0))), (mwa, .inl (cI, 130, .inl (fun _ => 0))), (mke, .inl (cI, 130, .inl (fun _ => 0))), (mma, .inl (cI, 3, .inl (fun _ => 0))), (mth, .inl (cI, 3, .inl (fun _ => 0))), (mtr, .inl (cI, 20, .inl (fun _ => 0)))] := hD
        rcases hr_137 with ⟨rfl, g_139⟩ | ⟨rfl, g_140, g_141⟩ | ⟨rfl, g_142, g_143, g_144⟩ | ⟨rfl, g_145, g_146, g_147⟩
        · exfalso; omega
        · refine lv_icmp_eq (tgt := 1371) hx hb dL_law_645 (by decide) (fun c_148 => ?_) (fun c_148 => ?_)
          · refine lv_iinc (v := 6) (lv' := [(3, .int 6), (2, .ref m0), (1, .ref x0), (0, .ref b)]) hx hb dL_law_1371 hl (k := 0) rfl (by decide) (by decide) rfl (fun ls hl => ?_)
            refine lv_goto (tgt := 18) hx hb dL_law_1374 (by decide) ?_
            refine lv_iload_n hx hb dL_law_18 rfl (lv_at hl 0 rfl) ?_
            refine lv_aload_n hx hb dL_law_19 rfl (lv_at hl 3 rfl) ?_
            refine va_slen hx hb hX hbl hbA hS dL_law_20 ?_
            refine lv_topi (fun y_149 ey_149 => ?_)
            obtain rfl : y_149 = 6 := ey_149.trans (by decide)
            refine lv_bipush (v := 6) hx hb dL_law_21 (by decide) ?_
            refine lv_isub hx hb dL_law_23 ?_
            refine lv_topi (fun y_150 ey_150 => ?_)
            obtain rfl : y_150 = 0 := ey_150.trans (by decide)
            refine lv_icmp_gt (tgt := 1377) hx hb dL_law_24 (by decide) (fun c_151 => ?_) (fun c_151 => ?_)
            · refine lv_iconst (v := 1) hx hb dL_law_1377 (by decide) ?_
              refine va_forget (fun q hq => hS.2.2 q hq) ?_
              refine W.widen (k := 600000) (n := 7302250) (Nat.le_of_ble_eq_true rfl) (Nat.le_of_ble_eq_true rfl) ?_
              exact lw_ret hx hb hr hlocks dL_law_1378
            · exact absurd c_151 (by decide)
          · exact absurd c_148 (by decide)
        · exfalso; omega
        · exfalso; omega
    · refine lv_aload_n hx hb dL_law_623 rfl (lv_at hl 1 rfl) ?_
      refine lv_aload_n hx hb dL_law_624 rfl (lv_at hl 3 rfl) ?_
      refine lv_iload_n hx hb dL_law_625 rfl (lv_at hl 0 rfl) ?_
      refine lv_iconst (v := 1) hx hb dL_law_626 (by decide) ?_
      refine lv_iadd hx hb dL_law_627 ?_
      refine lv_topi (fun y_152 ey_152 => ?_)
      obtain rfl : y_152 = 1 := ey_152.trans (by decide)
      refine va_sld hx hb hX hbl hbA hS (zf_in (by decide) (by decide)) dL_law_628 ?_
      refine lv_topi (fun y_153 ey_153 => ?_)
      obtain rfl : a_3 = y_153 := ea_3.trans ey_153.symm
      refine lv_aload_n hx hb dL_law_629 rfl (lv_at hl 3 rfl) ?_
      refine lv_iload_n hx hb dL_law_630 rfl (lv_at hl 0 rfl) ?_
      refine lv_iconst (v := 2) hx hb dL_law_631 (by decide) ?_
      refine lv_iadd hx hb dL_law_632 ?_
      refine lv_topi (fun y_154 ey_154 => ?_)
      obtain rfl : y_154 = 2 := ey_154.trans (by decide)
      refine va_sld hx hb hX hbl hbA hS (zf_in (by decide) (by decide)) dL_law_633 ?_
      refine lv_topi (fun y_155 ey_155 => ?_)
      obtain rfl : a_6 = y_155 := ea_6.trans ey_155.symm
      refine lv_if_eq (tgt := 641) hx hb dL_law_634 (by decide) (fun c_156 => ?_) (fun c_156 => ?_)
      · have fc_156 : a_6.toInt = 0 := zf_eq c_156 rfl (by decide)
        refine lv_iconst (v := 0) hx hb dL_law_641 (by decide) ?_
        have kc0 : (0 : Int32).toInt = 0 := by decide
        skip
        refine zw_V (As := [.int a_3, .int 0]) (rest := [.int 0]) (wr := [(mki, .inl (cI, 8, .inl (fun _ => 0))), (mpa, .inl (cI, 8, .inl (fun _ => 0))), (mta, .inl (cI, 8, .inl (fun _ => 0))), (msl, .inl (cI, 40, .inl (fun _ => 0))), (mco, .inl (cI, 3, .inl (zL3 5 10 50))), (mhe, .inl (cI, 8, .inl (fun _ => 0))), (mso, .inl (cI, 8, .inl (fun _ => 0))), (msi, .inl (cI, 8, .inl (fun _ => 0))), (msh, .inl (cI, 8, .inl (fun _ => 0))), (mce, .inl (cJ, 1280, .inr (.inl (fun _ => 0)))), (mca, .inl (cJ, 160, .inr (.inl (fun _ => 0)))), (mwo, .inl (cI, 64, .inl fw_)), (mnu, .inl (cI, 10, .inl fn_)), (mte, .inl (cI, 3, .inl (fun _ => 0))), (mwa, .inl (cI, 130, .inl (fun _ => 0))), (mke, .inl (cI, 130, .inl (fun _ => 0))), (mma, .inl (cI, 3, .inl (fun _ => 0))), (mth, .inl (cI, 3, .inl (fun _ => 0))), (mtr, .inl (cI, 20, .inl (fun _ => 0)))]) ⟨hx, hb, hml, hown, hts⟩ (c_M_lack l D cI cJ cZ cP cS m0 mrf mki mpa mta mla msl mco mhe mso msi msh mce mca mwo mnu mte mwa mke mma mth mtr (a_3) (0)  H.size) (cwV 2 hts gq_65 rfl rfl rfl (by decide +kernel) ⟨Nat.le_of_ble_eq_true rfl, Nat.le_of_ble_eq_true rfl⟩) hK hN (hZ.kept hS) hP hD hS hA [0, 1, 5] [2, 3, 4, 6, 7, 8, 9, 10, 11, 12, 13, 14, 15, 16, 17, 18, 19, 20, 21] rfl rfl (by decide) (by decide) (by decide) (va_recv hK hP (ci := 8) (q0 := 0) rfl rfl) rfl hl.1 rfl (Nat.le_of_ble_eq_true rfl) dL_law_642 ⟨Nat.le_of_ble_eq_true rfl, Nat.le_of_ble_eq_true rfl⟩ (fun r_157 u_158 H locs hr_157 hP hD hS => ?_)
        replace hP : va_P D vwCl [(mki, .inl (cI, 8, .inl (fun _ => 0))), (mpa, .inl (cI, 8, .inl (fun _ => 0))), (mta, .inl (cI, 8, .inl (fun _ => 0))), (msl, .inl (cI, 40, .inl (fun _ => 0))), (mco, .inl (cI, 3, .inl (zL3 5 10 50))), (mhe, .inl (cI, 8, .inl (fun _ => 0))), (mso, .inl (cI, 8, .inl (fun _ => 0))), (msi, .inl (cI, 8, .inl (fun _ => 0))), (msh, .inl (cI, 8, .inl (fun _ => 0))), (mce, .inl (cJ, 1280, .inr (.inl (fun _ => 0)))), (mca, .inl (cJ, 160, .inr (.inl (fun _ => 0)))), (mwo, .inl (cI, 64, .inl fw_)), (mnu, .inl (cI, 10, .inl fn_)), (mte, .inl (cI, 3, .inl (fun _ => 0))), (mwa, .inl (cI, 130, .inl (fun _ => 0))), (mke, .inl (cI, 130, .inl (fun _ => 0))), (mma, .inl (cI, 3, .inl (fun _ => 0))), (mth, .inl (cI, 3, .inl (fun _ => 0))), (mtr, .inl (cI, 20, .inl (fun _ => 0)))] H := hP
        replace hD : va_D _ [(mki, .inl (cI, 8, .inl (fun _ => 0))), (mpa, .inl (cI, 8, .inl (fun _ => 0))), (mta, .inl (cI, 8, .inl (fun _ => 0))), (msl, .inl (cI, 40, .inl (fun _ => 0))), (mco, .inl (cI, 3, .inl (zL3 5 10 50))), (mhe, .inl (cI, 8, .inl (fun _ => 0))), (mso, .inl (cI, 8, .inl (fun _ => 0))), (msi, .inl (cI, 8, .inl (fun _ => 0))), (msh, .inl (cI, 8, .inl (fun _ => 0))), (mce, .inl (cJ, 1280, .inr (.inl (fun _ => 0)))), (mca, .inl (cJ, 160, .inr (.inl (fun _ => 0)))), (mwo, .inl (cI, 64, .inl fw_)), (mnu, .inl (cI, 10, .inl fn_)), (mte, .inl (cI, 3, .inl (fun _ => 0))), (mwa, .inl (cI, 130, .inl (fun _ => 0))), (mke, .inl (cI, 130, .inl (fun _ => 0))), (mma, .inl (cI, 3, .inl (fun _ => 0))), (mth, .inl (cI, 3, .inl (fun _ => 0))), (mtr, .inl (cI, 20, .inl (fun _ => 0)))] := hD
        rcases hr_157 with ⟨rfl, g_159⟩ | ⟨rfl, g_160, g_161⟩ | ⟨rfl, g_162, g_163, g_164⟩ | ⟨rfl, g_165, g_166, g_167⟩
        · exfalso; omega
        · exfalso; omega
        · refine lv_icmp_eq (tgt := 1371) hx hb dL_law_645 (by decide) (fun c_168 => ?_) (fun c_168 => ?_)
          · refine lv_iinc (v := 6) (lv' := [(3, .int 6), (2, .ref m0), (1, .ref x0), (0, .ref b)]) hx hb dL_law_1371 hl (k := 0) rfl (by decide) (by decide) rfl (fun ls hl => ?_)
            refine lv_goto (tgt := 18) hx hb dL_law_1374 (by decide) ?_
            refine lv_iload_n hx hb dL_law_18 rfl (lv_at hl 0 rfl) ?_
            refine lv_aload_n hx hb dL_law_19 rfl (lv_at hl 3 rfl) ?_
            refine va_slen hx hb hX hbl hbA hS dL_law_20 ?_
            refine lv_topi (fun y_169 ey_169 => ?_)
            obtain rfl : y_169 = 6 := ey_169.trans (by decide)
            refine lv_bipush (v := 6) hx hb dL_law_21 (by decide) ?_
            refine lv_isub hx hb dL_law_23 ?_
            refine lv_topi (fun y_170 ey_170 => ?_)
            obtain rfl : y_170 = 0 := ey_170.trans (by decide)
            refine lv_icmp_gt (tgt := 1377) hx hb dL_law_24 (by decide) (fun c_171 => ?_) (fun c_171 => ?_)
            · refine lv_iconst (v := 1) hx hb dL_law_1377 (by decide) ?_
              refine va_forget (fun q hq => hS.2.2 q hq) ?_
              refine W.widen (k := 600000) (n := 7302250) (Nat.le_of_ble_eq_true rfl) (Nat.le_of_ble_eq_true rfl) ?_
              exact lw_ret hx hb hr hlocks dL_law_1378
            · exact absurd c_171 (by decide)
          · exact absurd c_168 (by decide)
        · exfalso; omega
      · have fc_156 : a_6.toInt ≠ 0 := zf_ne c_156 rfl (by decide)
        refine lv_iconst (v := 1) hx hb dL_law_637 (by decide) ?_
        refine lv_goto (tgt := 642) hx hb dL_law_638 (by decide) ?_
        have kc1 : (1 : Int32).toInt = 1 := by decide
        skip
        refine zw_V (As := [.int a_3, .int 1]) (rest := [.int 0]) (wr := [(mki, .inl (cI, 8, .inl (fun _ => 0))), (mpa, .inl (cI, 8, .inl (fun _ => 0))), (mta, .inl (cI, 8, .inl (fun _ => 0))), (msl, .inl (cI, 40, .inl (fun _ => 0))), (mco, .inl (cI, 3, .inl (zL3 5 10 50))), (mhe, .inl (cI, 8, .inl (fun _ => 0))), (mso, .inl (cI, 8, .inl (fun _ => 0))), (msi, .inl (cI, 8, .inl (fun _ => 0))), (msh, .inl (cI, 8, .inl (fun _ => 0))), (mce, .inl (cJ, 1280, .inr (.inl (fun _ => 0)))), (mca, .inl (cJ, 160, .inr (.inl (fun _ => 0)))), (mwo, .inl (cI, 64, .inl fw_)), (mnu, .inl (cI, 10, .inl fn_)), (mte, .inl (cI, 3, .inl (fun _ => 0))), (mwa, .inl (cI, 130, .inl (fun _ => 0))), (mke, .inl (cI, 130, .inl (fun _ => 0))), (mma, .inl (cI, 3, .inl (fun _ => 0))), (mth, .inl (cI, 3, .inl (fun _ => 0))), (mtr, .inl (cI, 20, .inl (fun _ => 0)))]) ⟨hx, hb, hml, hown, hts⟩ (c_M_lack l D cI cJ cZ cP cS m0 mrf mki mpa mta mla msl mco mhe mso msi msh mce mca mwo mnu mte mwa mke mma mth mtr (a_3) (1)  H.size) (cwV 2 hts gq_65 rfl rfl rfl (by decide +kernel) ⟨Nat.le_of_ble_eq_true rfl, Nat.le_of_ble_eq_true rfl⟩) hK hN (hZ.kept hS) hP hD hS hA [0, 1, 5] [2, 3, 4, 6, 7, 8, 9, 10, 11, 12, 13, 14, 15, 16, 17, 18, 19, 20, 21] rfl rfl (by decide) (by decide) (by decide) (va_recv hK hP (ci := 8) (q0 := 0) rfl rfl) rfl hl.1 rfl (Nat.le_of_ble_eq_true rfl) dL_law_642 ⟨Nat.le_of_ble_eq_true rfl, Nat.le_of_ble_eq_true rfl⟩ (fun r_172 u_173 H locs hr_172 hP hD hS => ?_)
        replace hP : va_P D vwCl [(mki, .inl (cI, 8, .inl (fun _ => 0))), (mpa, .inl (cI, 8, .inl (fun _ => 0))), (mta, .inl (cI, 8, .inl (fun _ => 0))), (msl, .inl (cI, 40, .inl (fun _ => 0))), (mco, .inl (cI, 3, .inl (zL3 5 10 50))), (mhe, .inl (cI, 8, .inl (fun _ => 0))), (mso, .inl (cI, 8, .inl (fun _ => 0))), (msi, .inl (cI, 8, .inl (fun _ => 0))), (msh, .inl (cI, 8, .inl (fun _ => 0))), (mce, .inl (cJ, 1280, .inr (.inl (fun _ => 0)))), (mca, .inl (cJ, 160, .inr (.inl (fun _ => 0)))), (mwo, .inl (cI, 64, .inl fw_)), (mnu, .inl (cI, 10, .inl fn_)), (mte, .inl (cI, 3, .inl (fun _ => 0))), (mwa, .inl (cI, 130, .inl (fun _ => 0))), (mke, .inl (cI, 130, .inl (fun _ => 0))), (mma, .inl (cI, 3, .inl (fun _ => 0))), (mth, .inl (cI, 3, .inl (fun _ => 0))), (mtr, .inl (cI, 20, .inl (fun _ => 0)))] H := hP
        replace hD : va_D _ [(mki, .inl (cI, 8, .inl (fun _ => 0))), (mpa, .inl (cI, 8, .inl (fun _ => 0))), (mta, .inl (cI, 8, .inl (fun _ => 0))), (msl, .inl (cI, 40, .inl (fun _ => 0))), (mco, .inl (cI, 3, .inl (zL3 5 10 50))), (mhe, .inl (cI, 8, .inl (fun _ => 0))), (mso, .inl (cI, 8, .inl (fun _ => 0))), (msi, .inl (cI, 8, .inl (fun _ => 0))), (msh, .inl (cI, 8, .inl (fun _ => 0))), (mce, .inl (cJ, 1280, .inr (.inl (fun _ => 0)))), (mca, .inl (cJ, 160, .inr (.inl (fun _ => 0)))), (mwo, .inl (cI, 64, .inl fw_)), (mnu, .inl (cI, 10, .inl fn_)), (mte, .inl (cI, 3, .inl (fun _ => 0))), (mwa, .inl (cI, 130, .inl (fun _ => 0))), (mke, .inl (cI, 130, .inl (fun _ => 0))), (mma, .inl (cI, 3, .inl (fun _ => 0))), (mth, .inl (cI, 3, .inl (fun _ => 0))), (mtr, .inl (cI, 20, .inl (fun _ => 0)))] := hD
        rcases hr_172 with ⟨rfl, g_174⟩ | ⟨rfl, g_175, g_176⟩ | ⟨rfl, g_177, g_178, g_179⟩ | ⟨rfl, g_180, g_181, g_182⟩
        · exfalso; omega
        · exfalso; omega
        · exfalso; omega
        · refine lv_icmp_eq (tgt := 1371) hx hb dL_law_645 (by decide) (fun c_183 => ?_) (fun c_183 => ?_)
          · refine lv_iinc (v := 6) (lv' := [(3, .int 6), (2, .ref m0), (1, .ref x0), (0, .ref b)]) hx hb dL_law_1371 hl (k := 0) rfl (by decide) (by decide) rfl (fun ls hl => ?_)
            refine lv_goto (tgt := 18) hx hb dL_law_1374 (by decide) ?_
            refine lv_iload_n hx hb dL_law_18 rfl (lv_at hl 0 rfl) ?_
            refine lv_aload_n hx hb dL_law_19 rfl (lv_at hl 3 rfl) ?_
            refine va_slen hx hb hX hbl hbA hS dL_law_20 ?_
            refine lv_topi (fun y_184 ey_184 => ?_)
            obtain rfl : y_184 = 6 := ey_184.trans (by decide)
            refine lv_bipush (v := 6) hx hb dL_law_21 (by decide) ?_
            refine lv_isub hx hb dL_law_23 ?_
            refine lv_topi (fun y_185 ey_185 => ?_)
            obtain rfl : y_185 = 0 := ey_185.trans (by decide)
            refine lv_icmp_gt (tgt := 1377) hx hb dL_law_24 (by decide) (fun c_186 => ?_) (fun c_186 => ?_)
            · refine lv_iconst (v := 1) hx hb dL_law_1377 (by decide) ?_
              refine va_forget (fun q hq => hS.2.2 q hq) ?_
              refine W.widen (k := 600000) (n := 7302250) (Nat.le_of_ble_eq_true rfl) (Nat.le_of_ble_eq_true rfl) ?_
              exact lw_ret hx hb hr hlocks dL_law_1378
            · exact absurd c_186 (by decide)
          · exact absurd c_183 (by decide)
