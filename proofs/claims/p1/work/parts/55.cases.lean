set_option maxHeartbeats 8000000 in
set_option maxRecDepth 100000 in
theorem law_case_19 {p : Program} {l : Launch} {e : Env} {s : State} {m : MethodId} {below : List Frame} {meth : Method} {c : Code} {D : va_G} {cI cJ cZ cP cS : ClassId} {b : Nat} {xs_ : Nat → Int32} (x0 xs j0 k0 w0 rd mv xr z0 jp jc zl zs kz kp kc kzl kzs wk wl wc wp ri rl mb m0 mrf mki mpa mta mla msl mco mhe mso msi msh mce mca mwo mnu mte mwa mke mma mth mtr : Nat) (sh el : Nat → Nat) (fw_ fn_ : Nat → Int32) (C0 : lw_At p s m meth c b 6 xs_) (hK : va_K D vwCl (zKT cI cJ cZ cP cS) s) (hN : zN s) (hZ : zSt (fun q : Nat => s.heap.size ≤ q) s s.heap) (H : Heap) (locs : List Loc) (hP : va_P D vwCl (zLW cI cJ cZ cP cS x0 xs j0 k0 w0 rd mv xr z0 jp jc zl zs kz kp kc kzl kzs wk wl wc wp ri rl mb m0 mrf mki mpa mta mla msl mco mhe mso msi msh mce mca mwo mnu mte mwa mke mma mth mtr sh el fw_ fn_) H) (hD : va_D (fun q : Nat => s.heap.size ≤ q) (zLW cI cJ cZ cP cS x0 xs j0 k0 w0 rd mv xr z0 jp jc zl zs kz kp kc kzl kzs wk wl wc wp ri rl mb m0 mrf mki mpa mta mla msl mco mhe mso msi msh mce mca mwo mnu mte mwa mke mma mth mtr sh el fw_ fn_)) (hS : va_S (fun q : Nat => s.heap.size ≤ q) s.heap H locs) (ls : Array Slot) (hl : lv_has ls 4 [(3, .int 0), (2, .ref m0), (1, .ref x0), (0, .ref b)]) : W p l e room_1 s m #[Value.ref b] below meth c H locs 100 10000 (lw_Z below #[Value.ref b] s) (F0 m 894 ls []) := by
  obtain ⟨hx, hb, hr, hml, hown0, hts, hX, hbl, hlocks, hgv⟩ := id C0
  have hown : s.vm.findClass RL = some m.cls := hown0
  have hA : ∀ q : Nat, s.heap.size ≤ q → (fun q : Nat => s.heap.size ≤ q) q := fun _ h => h
  have hbA : ¬ (fun q : Nat => s.heap.size ≤ q) b := Nat.not_le.mpr hbl
  replace hP : va_P D vwCl ((x0, .inr (7, [.ref xs, .ref j0, .ref k0, .ref w0, .ref rd, .ref mv, .ref xr, .int 0, .int (-1)])) :: (xs, .inl (cS, 8, .inr (.inr (.inr (.inr (zS sh)))))) :: (j0, .inr (0, [.ref z0, .ref jp, .ref jc, .int 0, .int 0, .int 0, .int 60, .int 0, .int 1])) :: (z0, .inr (6, [.ref zl, .ref zs, .int 20, .int 0, .int 3])) :: (zl, .inl (cZ, 40, .inl (fun _ => 0))) :: (zs, .inl (cI, 40, .inl (fun _ => 0))) :: (jp, .inl (cP, 8, .inr (.inr (.inr (.inr (fun _ => none)))))) :: (jc, .inl (cI, 3, .inl (zL3 5 10 50))) :: (k0, .inr (0, [.ref kz, .ref kp, .ref kc, .int 0, .int 0, .int 0, .int 60, .int 0, .int 1])) :: (kz, .inr (6, [.ref kzl, .ref kzs, .int 20, .int 0, .int 3])) :: (kzl, .inl (cZ, 40, .inl (fun _ => 0))) :: (kzs, .inl (cI, 40, .inl (fun _ => 0))) :: (kp, .inl (cP, 8, .inr (.inr (.inr (.inr (fun _ => none)))))) :: (kc, .inl (cI, 3, .inl (zL3 5 10 50))) :: (w0, .inr (5, [.ref wk, .ref wl, .ref wc, .ref wp, .int 0, .int 0, .int 0])) :: (wk, .inl (cI, 125, .inl (fun _ => 0))) :: (wl, .inl (cI, 125, .inl (fun _ => 0))) :: (wc, .inl (cI, 3, .inl (fun _ => 0))) :: (wp, .inl (cP, 8, .inr (.inr (.inr (.inr (fun _ => none)))))) :: (rd, .inr (3, [.ref ri, .ref rl, .int 0, .int 0, .int 0, .int (-1), .int 0, .int 0])) :: (ri, .inl (cI, 132, .inl (fun _ => 0))) :: (rl, .inl (cI, 160, .inl (fun _ => 0))) :: (mv, .inr (1, [.ref mb, .int 0, .int 0, .int 0, .int 0])) :: (mb, .inl (cI, 20, .inl (fun _ => 0))) :: (xr, .inl (cI, 8, .inl (fun _ => 0))) :: ((sh 0), .inr (4, [.ref (el 0), .int (-1), .int 0])) :: ((el 0), .inl (cJ, 160, .inr (.inl (fun _ => 0)))) :: ((sh 1), .inr (4, [.ref (el 1), .int (-1), .int 0])) :: ((el 1), .inl (cJ, 160, .inr (.inl (fun _ => 0)))) :: ((sh 2), .inr (4, [.ref (el 2), .int (-1), .int 0])) :: ((el 2), .inl (cJ, 160, .inr (.inl (fun _ => 0)))) :: ((sh 3), .inr (4, [.ref (el 3), .int (-1), .int 0])) :: ((el 3), .inl (cJ, 160, .inr (.inl (fun _ => 0)))) :: ((sh 4), .inr (4, [.ref (el 4), .int (-1), .int 0])) :: ((el 4), .inl (cJ, 160, .inr (.inl (fun _ => 0)))) :: ((sh 5), .inr (4, [.ref (el 5), .int (-1), .int 0])) :: ((el 5), .inl (cJ, 160, .inr (.inl (fun _ => 0)))) :: ((sh 6), .inr (4, [.ref (el 6), .int (-1), .int 0])) :: ((el 6), .inl (cJ, 160, .inr (.inl (fun _ => 0)))) :: ((sh 7), .inr (4, [.ref (el 7), .int (-1), .int 0])) :: ((el 7), .inl (cJ, 160, .inr (.inl (fun _ => 0)))) :: (m0, .inr (8, (.int 0 :: .int 20 :: .int 0 :: .int 0 :: .int 0 :: .int 60 :: .int 0 :: .int 3 :: .int 1 :: .int (-1) :: .ref mrf :: .ref mki :: .ref mpa :: .ref mta :: .ref mla :: .ref msl :: .ref mco :: .ref mhe :: .ref mso :: .ref msi :: .ref msh :: .ref mce :: .ref mca :: .ref mwo :: .ref mnu :: .ref mte :: .int 0 :: .int 0 :: .int 0 :: .int 0 :: .int 0 :: .ref mwa :: .ref mke :: .ref mma :: .ref mth :: .ref mtr :: .int 0 :: .int 0 :: []))) :: (mrf, .inl (cI, 8, .inl (fun _ => 0))) :: (mki, .inl (cI, 8, .inl (fun _ => 0))) :: (mpa, .inl (cI, 8, .inl (fun _ => 0))) :: (mta, .inl (cI, 8, .inl (fun _ => 0))) :: (mla, .inl (cI, 40, .inl (fun _ => 0))) :: (msl, .inl (cI, 40, .inl (fun _ => 0))) :: (mco, .inl (cI, 3, .inl (zL3 5 10 50))) :: (mhe, .inl (cI, 8, .inl (fun _ => 0))) :: (mso, .inl (cI, 8, .inl (fun _ => 0))) :: (msi, .inl (cI, 8, .inl (fun _ => 0))) :: (msh, .inl (cI, 8, .inl (fun _ => 0))) :: (mce, .inl (cJ, 1280, .inr (.inl (fun _ => 0)))) :: (mca, .inl (cJ, 160, .inr (.inl (fun _ => 0)))) :: (mwo, .inl (cI, 64, .inl fw_)) :: (mnu, .inl (cI, 10, .inl fn_)) :: (mte, .inl (cI, 3, .inl (fun _ => 0))) :: (mwa, .inl (cI, 130, .inl (fun _ => 0))) :: (mke, .inl (cI, 130, .inl (fun _ => 0))) :: (mma, .inl (cI, 3, .inl (fun _ => 0))) :: (mth, .inl (cI, 3, .inl (fun _ => 0))) :: (mtr, .inl (cI, 20, .inl (fun _ => 0))) :: []) H := hP
  replace hD : va_D _ ((x0, .inr (7, [.ref xs, .ref j0, .ref k0, .ref w0, .ref rd, .ref mv, .ref xr, .int 0, .int (-1)])) :: (xs, .inl (cS, 8, .inr (.inr (.inr (.inr (zS sh)))))) :: (j0, .inr (0, [.ref z0, .ref jp, .ref jc, .int 0, .int 0, .int 0, .int 60, .int 0, .int 1])) :: (z0, .inr (6, [.ref zl, .ref zs, .int 20, .int 0, .int 3])) :: (zl, .inl (cZ, 40, .inl (fun _ => 0))) :: (zs, .inl (cI, 40, .inl (fun _ => 0))) :: (jp, .inl (cP, 8, .inr (.inr (.inr (.inr (fun _ => none)))))) :: (jc, .inl (cI, 3, .inl (zL3 5 10 50))) :: (k0, .inr (0, [.ref kz, .ref kp, .ref kc, .int 0, .int 0, .int 0, .int 60, .int 0, .int 1])) :: (kz, .inr (6, [.ref kzl, .ref kzs, .int 20, .int 0, .int 3])) :: (kzl, .inl (cZ, 40, .inl (fun _ => 0))) :: (kzs, .inl (cI, 40, .inl (fun _ => 0))) :: (kp, .inl (cP, 8, .inr (.inr (.inr (.inr (fun _ => none)))))) :: (kc, .inl (cI, 3, .inl (zL3 5 10 50))) :: (w0, .inr (5, [.ref wk, .ref wl, .ref wc, .ref wp, .int 0, .int 0, .int 0])) :: (wk, .inl (cI, 125, .inl (fun _ => 0))) :: (wl, .inl (cI, 125, .inl (fun _ => 0))) :: (wc, .inl (cI, 3, .inl (fun _ => 0))) :: (wp, .inl (cP, 8, .inr (.inr (.inr (.inr (fun _ => none)))))) :: (rd, .inr (3, [.ref ri, .ref rl, .int 0, .int 0, .int 0, .int (-1), .int 0, .int 0])) :: (ri, .inl (cI, 132, .inl (fun _ => 0))) :: (rl, .inl (cI, 160, .inl (fun _ => 0))) :: (mv, .inr (1, [.ref mb, .int 0, .int 0, .int 0, .int 0])) :: (mb, .inl (cI, 20, .inl (fun _ => 0))) :: (xr, .inl (cI, 8, .inl (fun _ => 0))) :: ((sh 0), .inr (4, [.ref (el 0), .int (-1), .int 0])) :: ((el 0), .inl (cJ, 160, .inr (.inl (fun _ => 0)))) :: ((sh 1), .inr (4, [.ref (el 1), .int (-1), .int 0])) :: ((el 1), .inl (cJ, 160, .inr (.inl (fun _ => 0)))) :: ((sh 2), .inr (4, [.ref (el 2), .int (-1), .int 0])) :: ((el 2), .inl (cJ, 160, .inr (.inl (fun _ => 0)))) :: ((sh 3), .inr (4, [.ref (el 3), .int (-1), .int 0])) :: ((el 3), .inl (cJ, 160, .inr (.inl (fun _ => 0)))) :: ((sh 4), .inr (4, [.ref (el 4), .int (-1), .int 0])) :: ((el 4), .inl (cJ, 160, .inr (.inl (fun _ => 0)))) :: ((sh 5), .inr (4, [.ref (el 5), .int (-1), .int 0])) :: ((el 5), .inl (cJ, 160, .inr (.inl (fun _ => 0)))) :: ((sh 6), .inr (4, [.ref (el 6), .int (-1), .int 0])) :: ((el 6), .inl (cJ, 160, .inr (.inl (fun _ => 0)))) :: ((sh 7), .inr (4, [.ref (el 7), .int (-1), .int 0])) :: ((el 7), .inl (cJ, 160, .inr (.inl (fun _ => 0)))) :: (m0, .inr (8, (.int 0 :: .int 20 :: .int 0 :: .int 0 :: .int 0 :: .int 60 :: .int 0 :: .int 3 :: .int 1 :: .int (-1) :: .ref mrf :: .ref mki :: .ref mpa :: .ref mta :: .ref mla :: .ref msl :: .ref mco :: .ref mhe :: .ref mso :: .ref msi :: .ref msh :: .ref mce :: .ref mca :: .ref mwo :: .ref mnu :: .ref mte :: .int 0 :: .int 0 :: .int 0 :: .int 0 :: .int 0 :: .ref mwa :: .ref mke :: .ref mma :: .ref mth :: .ref mtr :: .int 0 :: .int 0 :: []))) :: (mrf, .inl (cI, 8, .inl (fun _ => 0))) :: (mki, .inl (cI, 8, .inl (fun _ => 0))) :: (mpa, .inl (cI, 8, .inl (fun _ => 0))) :: (mta, .inl (cI, 8, .inl (fun _ => 0))) :: (mla, .inl (cI, 40, .inl (fun _ => 0))) :: (msl, .inl (cI, 40, .inl (fun _ => 0))) :: (mco, .inl (cI, 3, .inl (zL3 5 10 50))) :: (mhe, .inl (cI, 8, .inl (fun _ => 0))) :: (mso, .inl (cI, 8, .inl (fun _ => 0))) :: (msi, .inl (cI, 8, .inl (fun _ => 0))) :: (msh, .inl (cI, 8, .inl (fun _ => 0))) :: (mce, .inl (cJ, 1280, .inr (.inl (fun _ => 0)))) :: (mca, .inl (cJ, 160, .inr (.inl (fun _ => 0)))) :: (mwo, .inl (cI, 64, .inl fw_)) :: (mnu, .inl (cI, 10, .inl fn_)) :: (mte, .inl (cI, 3, .inl (fun _ => 0))) :: (mwa, .inl (cI, 130, .inl (fun _ => 0))) :: (mke, .inl (cI, 130, .inl (fun _ => 0))) :: (mma, .inl (cI, 3, .inl (fun _ => 0))) :: (mth, .inl (cI, 3, .inl (fun _ => 0))) :: (mtr, .inl (cI, 20, .inl (fun _ => 0))) :: []) := hD
  refine lv_aload_n hx hb dL_law_894 rfl (lv_at hl 2 rfl) ?_
  refine lv_aload_n hx hb dL_law_895 rfl (lv_at hl 3 rfl) ?_
  refine lv_iload_n hx hb dL_law_896 rfl (lv_at hl 0 rfl) ?_
  refine lv_iconst (v := 1) hx hb dL_law_897 (by decide) ?_
  refine lv_iadd hx hb dL_law_898 ?_
  refine lv_topi (fun y_1 ey_1 => ?_)
  obtain rfl : y_1 = 1 := ey_1.trans (by decide)
  refine va_sld hx hb hX hbl hbA hS (zf_in (by decide) (by decide)) dL_law_899 ?_
  refine lv_topi (fun a_3 ea_3 => ?_)
  refine lv_aload_n hx hb dL_law_900 rfl (lv_at hl 3 rfl) ?_
  refine lv_iload_n hx hb dL_law_901 rfl (lv_at hl 0 rfl) ?_
  refine lv_iconst (v := 2) hx hb dL_law_902 (by decide) ?_
  refine lv_iadd hx hb dL_law_903 ?_
  refine lv_topi (fun y_4 ey_4 => ?_)
  obtain rfl : y_4 = 2 := ey_4.trans (by decide)
  refine va_sld hx hb hX hbl hbA hS (zf_in (by decide) (by decide)) dL_law_904 ?_
  refine lv_topi (fun a_6 ea_6 => ?_)
  skip
  refine zw_V (As := [.int a_3, .int a_6]) (rest := []) (wr := ((m0, .inr (8, (.int 0 :: .int 20 :: .int 0 :: .int 0 :: .int 0 :: .int 60 :: .int 0 :: .int 3 :: .int 1 :: .int (-1) :: .ref mrf :: .ref mki :: .ref mpa :: .ref mta :: .ref mla :: .ref msl :: .ref mco :: .ref mhe :: .ref mso :: .ref msi :: .ref msh :: .ref mce :: .ref mca :: .ref mwo :: .ref mnu :: .ref mte :: .int 0 :: .int 0 :: .int 0 :: .int 0 :: .int 0 :: .ref mwa :: .ref mke :: .ref mma :: .ref mth :: .ref mtr :: .int 0 :: .int 0 :: []))) :: (mrf, .inl (cI, 8, .inl (fun _ => 0))) :: (mki, .inl (cI, 8, .inl (fun _ => 0))) :: (mpa, .inl (cI, 8, .inl (fun _ => 0))) :: (mta, .inl (cI, 8, .inl (fun _ => 0))) :: (mla, .inl (cI, 40, .inl (fun _ => 0))) :: (msl, .inl (cI, 40, .inl (fun _ => 0))) :: (mco, .inl (cI, 3, .inl (zL3 5 10 50))) :: (mhe, .inl (cI, 8, .inl (fun _ => 0))) :: (mso, .inl (cI, 8, .inl (fun _ => 0))) :: (msi, .inl (cI, 8, .inl (fun _ => 0))) :: (msh, .inl (cI, 8, .inl (fun _ => 0))) :: (mce, .inl (cJ, 1280, .inr (.inl (fun _ => 0)))) :: (mca, .inl (cJ, 160, .inr (.inl (fun _ => 0)))) :: (mwo, .inl (cI, 64, .inl fw_)) :: (mnu, .inl (cI, 10, .inl fn_)) :: (mte, .inl (cI, 3, .inl (fun _ => 0))) :: (mwa, .inl (cI, 130, .inl (fun _ => 0))) :: (mke, .inl (cI, 130, .inl (fun _ => 0))) :: (mma, .inl (cI, 3, .inl (fun _ => 0))) :: (mth, .inl (cI, 3, .inl (fun _ => 0))) :: (mtr, .inl (cI, 20, .inl (fun _ => 0))) :: [])) ⟨hx, hb, hml, hown, hts⟩ (c_freed l D cI cJ cZ cP cS x0 xs j0 k0 w0 rd mv xr sh el jp jc z0 0 0 (a_3) (a_6)  H.size) (cwV 2 hts gq_99 rfl rfl rfl (by decide +kernel) ⟨Nat.le_of_ble_eq_true rfl, Nat.le_of_ble_eq_true rfl⟩) hK hN (hZ.kept hS) hP hD hS hA [0, 24, 1, 25, 27, 29, 31, 33, 35, 37, 39, 2] [41, 42, 43, 44, 45, 46, 47, 48, 49, 50, 51, 52, 53, 54, 55, 56, 57, 58, 59, 60, 61, 62] rfl rfl (by decide) (by decide) (by decide) (va_recv hK hP (ci := 7) (q0 := 0) rfl rfl) rfl hl.1 rfl (Nat.le_of_ble_eq_true rfl) dL_law_905 ⟨Nat.le_of_ble_eq_true rfl, Nat.le_of_ble_eq_true rfl⟩ (fun r_7 u_8 H locs hr_7 hP hD hS => ?_)
  replace hP : va_P D vwCl ((m0, .inr (8, (.int 0 :: .int 20 :: .int 0 :: .int 0 :: .int 0 :: .int 60 :: .int 0 :: .int 3 :: .int 1 :: .int (-1) :: .ref mrf :: .ref mki :: .ref mpa :: .ref mta :: .ref mla :: .ref msl :: .ref mco :: .ref mhe :: .ref mso :: .ref msi :: .ref msh :: .ref mce :: .ref mca :: .ref mwo :: .ref mnu :: .ref mte :: .int 0 :: .int 0 :: .int 0 :: .int 0 :: .int 0 :: .ref mwa :: .ref mke :: .ref mma :: .ref mth :: .ref mtr :: .int 0 :: .int 0 :: []))) :: (mrf, .inl (cI, 8, .inl (fun _ => 0))) :: (mki, .inl (cI, 8, .inl (fun _ => 0))) :: (mpa, .inl (cI, 8, .inl (fun _ => 0))) :: (mta, .inl (cI, 8, .inl (fun _ => 0))) :: (mla, .inl (cI, 40, .inl (fun _ => 0))) :: (msl, .inl (cI, 40, .inl (fun _ => 0))) :: (mco, .inl (cI, 3, .inl (zL3 5 10 50))) :: (mhe, .inl (cI, 8, .inl (fun _ => 0))) :: (mso, .inl (cI, 8, .inl (fun _ => 0))) :: (msi, .inl (cI, 8, .inl (fun _ => 0))) :: (msh, .inl (cI, 8, .inl (fun _ => 0))) :: (mce, .inl (cJ, 1280, .inr (.inl (fun _ => 0)))) :: (mca, .inl (cJ, 160, .inr (.inl (fun _ => 0)))) :: (mwo, .inl (cI, 64, .inl fw_)) :: (mnu, .inl (cI, 10, .inl fn_)) :: (mte, .inl (cI, 3, .inl (fun _ => 0))) :: (mwa, .inl (cI, 130, .inl (fun _ => 0))) :: (mke, .inl (cI, 130, .inl (fun _ => 0))) :: (mma, .inl (cI, 3, .inl (fun _ => 0))) :: (mth, .inl (cI, 3, .inl (fun _ => 0))) :: (mtr, .inl (cI, 20, .inl (fun _ => 0))) :: []) H := hP
  replace hD : va_D _ ((m0, .inr (8, (.int 0 :: .int 20 :: .int 0 :: .int 0 :: .int 0 :: .int 60 :: .int 0 :: .int 3 :: .int 1 :: .int (-1) :: .ref mrf :: .ref mki :: .ref mpa :: .ref mta :: .ref mla :: .ref msl :: .ref mco :: .ref mhe :: .ref mso :: .ref msi :: .ref msh :: .ref mce :: .ref mca :: .ref mwo :: .ref mnu :: .ref mte :: .int 0 :: .int 0 :: .int 0 :: .int 0 :: .int 0 :: .ref mwa :: .ref mke :: .ref mma :: .ref mth :: .ref mtr :: .int 0 :: .int 0 :: []))) :: (mrf, .inl (cI, 8, .inl (fun _ => 0))) :: (mki, .inl (cI, 8, .inl (fun _ => 0))) :: (mpa, .inl (cI, 8, .inl (fun _ => 0))) :: (mta, .inl (cI, 8, .inl (fun _ => 0))) :: (mla, .inl (cI, 40, .inl (fun _ => 0))) :: (msl, .inl (cI, 40, .inl (fun _ => 0))) :: (mco, .inl (cI, 3, .inl (zL3 5 10 50))) :: (mhe, .inl (cI, 8, .inl (fun _ => 0))) :: (mso, .inl (cI, 8, .inl (fun _ => 0))) :: (msi, .inl (cI, 8, .inl (fun _ => 0))) :: (msh, .inl (cI, 8, .inl (fun _ => 0))) :: (mce, .inl (cJ, 1280, .inr (.inl (fun _ => 0)))) :: (mca, .inl (cJ, 160, .inr (.inl (fun _ => 0)))) :: (mwo, .inl (cI, 64, .inl fw_)) :: (mnu, .inl (cI, 10, .inl fn_)) :: (mte, .inl (cI, 3, .inl (fun _ => 0))) :: (mwa, .inl (cI, 130, .inl (fun _ => 0))) :: (mke, .inl (cI, 130, .inl (fun _ => 0))) :: (mma, .inl (cI, 3, .inl (fun _ => 0))) :: (mth, .inl (cI, 3, .inl (fun _ => 0))) :: (mtr, .inl (cI, 20, .inl (fun _ => 0))) :: []) := hD
  rcases hr_7 with ⟨rfl, g_9, g_10⟩ | ⟨rfl, g_11, g_12⟩ | ⟨rfl, g_13, g_14, g_15⟩ | ⟨rfl, g_16, g_17, g_18⟩ | ⟨rfl, g_19, g_20, g_21⟩ | ⟨rfl, g_22, g_23, g_24⟩
  · refine lv_aload_n hx hb dL_law_908 rfl (lv_at hl 1 rfl) ?_
    refine lv_aload_n hx hb dL_law_909 rfl (lv_at hl 3 rfl) ?_
    refine lv_iload_n hx hb dL_law_910 rfl (lv_at hl 0 rfl) ?_
    refine lv_iconst (v := 1) hx hb dL_law_911 (by decide) ?_
    refine lv_iadd hx hb dL_law_912 ?_
    refine lv_topi (fun y_25 ey_25 => ?_)
    obtain rfl : y_25 = 1 := ey_25.trans (by decide)
    refine va_sld hx hb hX hbl hbA hS (zf_in (by decide) (by decide)) dL_law_913 ?_
    refine lv_topi (fun y_26 ey_26 => ?_)
    obtain rfl : a_3 = y_26 := ea_3.trans ey_26.symm
    refine lv_aload_n hx hb dL_law_914 rfl (lv_at hl 3 rfl) ?_
    refine lv_iload_n hx hb dL_law_915 rfl (lv_at hl 0 rfl) ?_
    refine lv_iconst (v := 2) hx hb dL_law_916 (by decide) ?_
    refine lv_iadd hx hb dL_law_917 ?_
    refine lv_topi (fun y_27 ey_27 => ?_)
    obtain rfl : y_27 = 2 := ey_27.trans (by decide)
    refine va_sld hx hb hX hbl hbA hS (zf_in (by decide) (by decide)) dL_law_918 ?_
    refine lv_topi (fun y_28 ey_28 => ?_)
    obtain rfl : a_6 = y_28 := ea_6.trans ey_28.symm
    skip
    refine zw_V (As := [.int a_3, .int a_6]) (rest := [.int (-1)]) (wr := [(mki, .inl (cI, 8, .inl (fun _ => 0))), (mpa, .inl (cI, 8, .inl (fun _ => 0))), (mta, .inl (cI, 8, .inl (fun _ => 0))), (mla, .inl (cI, 40, .inl (fun _ => 0))), (msl, .inl (cI, 40, .inl (fun _ => 0))), (mco, .inl (cI, 3, .inl (zL3 5 10 50))), (mso, .inl (cI, 8, .inl (fun _ => 0))), (msi, .inl (cI, 8, .inl (fun _ => 0))), (msh, .inl (cI, 8, .inl (fun _ => 0))), (mce, .inl (cJ, 1280, .inr (.inl (fun _ => 0)))), (mca, .inl (cJ, 160, .inr (.inl (fun _ => 0)))), (mwo, .inl (cI, 64, .inl fw_)), (mnu, .inl (cI, 10, .inl fn_)), (mte, .inl (cI, 3, .inl (fun _ => 0))), (mwa, .inl (cI, 130, .inl (fun _ => 0))), (mke, .inl (cI, 130, .inl (fun _ => 0))), (mma, .inl (cI, 3, .inl (fun _ => 0))), (mth, .inl (cI, 3, .inl (fun _ => 0))), (mtr, .inl (cI, 20, .inl (fun _ => 0)))]) ⟨hx, hb, hml, hown, hts⟩ (c_M_freed l D cI cJ cZ cP cS m0 mrf mki mpa mta mla msl mco mhe mso msi msh mce mca mwo mnu mte mwa mke mma mth mtr (a_3) (a_6)  H.size) (cwV 2 hts gq_102 rfl rfl rfl (by decide +kernel) ⟨Nat.le_of_ble_eq_true rfl, Nat.le_of_ble_eq_true rfl⟩) hK hN (hZ.kept hS) hP hD hS hA [0, 1, 8] [2, 3, 4, 5, 6, 7, 9, 10, 11, 12, 13, 14, 15, 16, 17, 18, 19, 20, 21] rfl rfl (by decide) (by decide) (by decide) (va_recv hK hP (ci := 8) (q0 := 0) rfl rfl) rfl hl.1 rfl (Nat.le_of_ble_eq_true rfl) dL_law_919 ⟨Nat.le_of_ble_eq_true rfl, Nat.le_of_ble_eq_true rfl⟩ (fun r_29 u_30 H locs hr_29 hP hD hS => ?_)
    replace hP : va_P D vwCl [(mki, .inl (cI, 8, .inl (fun _ => 0))), (mpa, .inl (cI, 8, .inl (fun _ => 0))), (mta, .inl (cI, 8, .inl (fun _ => 0))), (mla, .inl (cI, 40, .inl (fun _ => 0))), (msl, .inl (cI, 40, .inl (fun _ => 0))), (mco, .inl (cI, 3, .inl (zL3 5 10 50))), (mso, .inl (cI, 8, .inl (fun _ => 0))), (msi, .inl (cI, 8, .inl (fun _ => 0))), (msh, .inl (cI, 8, .inl (fun _ => 0))), (mce, .inl (cJ, 1280, .inr (.inl (fun _ => 0)))), (mca, .inl (cJ, 160, .inr (.inl (fun _ => 0)))), (mwo, .inl (cI, 64, .inl fw_)), (mnu, .inl (cI, 10, .inl fn_)), (mte, .inl (cI, 3, .inl (fun _ => 0))), (mwa, .inl (cI, 130, .inl (fun _ => 0))), (mke, .inl (cI, 130, .inl (fun _ => 0))), (mma, .inl (cI, 3, .inl (fun _ => 0))), (mth, .inl (cI, 3, .inl (fun _ => 0))), (mtr, .inl (cI, 20, .inl (fun _ => 0)))] H := hP
    replace hD : va_D _ [(mki, .inl (cI, 8, .inl (fun _ => 0))), (mpa, .inl (cI, 8, .inl (fun _ => 0))), (mta, .inl (cI, 8, .inl (fun _ => 0))), (mla, .inl (cI, 40, .inl (fun _ => 0))), (msl, .inl (cI, 40, .inl (fun _ => 0))), (mco, .inl (cI, 3, .inl (zL3 5 10 50))), (mso, .inl (cI, 8, .inl (fun _ => 0))), (msi, .inl (cI, 8, .inl (fun _ => 0))), (msh, .inl (cI, 8, .inl (fun _ => 0))), (mce, .inl (cJ, 1280, .inr (.inl (fun _ => 0)))), (mca, .inl (cJ, 160, .inr (.inl (fun _ => 0)))), (mwo, .inl (cI, 64, .inl fw_)), (mnu, .inl (cI, 10, .inl fn_)), (mte, .inl (cI, 3, .inl (fun _ => 0))), (mwa, .inl (cI, 130, .inl (fun _ => 0))), (mke, .inl (cI, 130, .inl (fun _ => 0))), (mma, .inl (cI, 3, .inl (fun _ => 0))), (mth, .inl (cI, 3, .inl (fun _ => 0))), (mtr, .inl (cI, 20, .inl (fun _ => 0)))] := hD
    rcases hr_29 with ⟨rfl, g_31⟩ | ⟨rfl, g_32, g_33⟩ | ⟨rfl, g_34, g_35, g_36⟩ | ⟨rfl, g_37, g_38, g_39⟩
    · refine lv_icmp_eq (tgt := 1371) hx hb dL_law_922 (by decide) (fun c_40 => ?_) (fun c_40 => ?_)
      · refine lv_iinc (v := 6) (lv' := [(3, .int 6), (2, .ref m0), (1, .ref x0), (0, .ref b)]) hx hb dL_law_1371 hl (k := 0) rfl (by decide) (by decide) rfl (fun ls hl => ?_)
        refine lv_goto (tgt := 18) hx hb dL_law_1374 (by decide) ?_
        refine lv_iload_n hx hb dL_law_18 rfl (lv_at hl 0 rfl) ?_
        refine lv_aload_n hx hb dL_law_19 rfl (lv_at hl 3 rfl) ?_
        refine va_slen hx hb hX hbl hbA hS dL_law_20 ?_
        refine lv_topi (fun y_41 ey_41 => ?_)
        obtain rfl : y_41 = 6 := ey_41.trans (by decide)
        refine lv_bipush (v := 6) hx hb dL_law_21 (by decide) ?_
        refine lv_isub hx hb dL_law_23 ?_
        refine lv_topi (fun y_42 ey_42 => ?_)
        obtain rfl : y_42 = 0 := ey_42.trans (by decide)
        refine lv_icmp_gt (tgt := 1377) hx hb dL_law_24 (by decide) (fun c_43 => ?_) (fun c_43 => ?_)
        · refine lv_iconst (v := 1) hx hb dL_law_1377 (by decide) ?_
          refine va_forget (fun q hq => hS.2.2 q hq) ?_
          refine W.widen (k := 600000) (n := 7302250) (Nat.le_of_ble_eq_true rfl) (Nat.le_of_ble_eq_true rfl) ?_
          exact lw_ret hx hb hr hlocks dL_law_1378
        · exact absurd c_43 (by decide)
      · exact absurd c_40 (by decide)
    · exfalso; omega
    · exfalso; omega
    · exfalso; omega
  · refine lv_aload_n hx hb dL_law_908 rfl (lv_at hl 1 rfl) ?_
    refine lv_aload_n hx hb dL_law_909 rfl (lv_at hl 3 rfl) ?_
    refine lv_iload_n hx hb dL_law_910 rfl (lv_at hl 0 rfl) ?_
    refine lv_iconst (v := 1) hx hb dL_law_911 (by decide) ?_
    refine lv_iadd hx hb dL_law_912 ?_
    refine lv_topi (fun y_44 ey_44 => ?_)
    obtain rfl : y_44 = 1 := ey_44.trans (by decide)
    refine va_sld hx hb hX hbl hbA hS (zf_in (by decide) (by decide)) dL_law_913 ?_
    refine lv_topi (fun y_45 ey_45 => ?_)
    obtain rfl : a_3 = y_45 := ea_3.trans ey_45.symm
    refine lv_aload_n hx hb dL_law_914 rfl (lv_at hl 3 rfl) ?_
    refine lv_iload_n hx hb dL_law_915 rfl (lv_at hl 0 rfl) ?_
    refine lv_iconst (v := 2) hx hb dL_law_916 (by decide) ?_
    refine lv_iadd hx hb dL_law_917 ?_
    refine lv_topi (fun y_46 ey_46 => ?_)
    obtain rfl : y_46 = 2 := ey_46.trans (by decide)
    refine va_sld hx hb hX hbl hbA hS (zf_in (by decide) (by decide)) dL_law_918 ?_
    refine lv_topi (fun y_47 ey_47 => ?_)
    obtain rfl : a_6 = y_47 := ea_6.trans ey_47.symm
    skip
    refine zw_V (As := [.int a_3, .int a_6]) (rest := [.int (-1)]) (wr := [(mki, .inl (cI, 8, .inl (fun _ => 0))), (mpa, .inl (cI, 8, .inl (fun _ => 0))), (mta, .inl (cI, 8, .inl (fun _ => 0))), (mla, .inl (cI, 40, .inl (fun _ => 0))), (msl, .inl (cI, 40, .inl (fun _ => 0))), (mco, .inl (cI, 3, .inl (zL3 5 10 50))), (mso, .inl (cI, 8, .inl (fun _ => 0))), (msi, .inl (cI, 8, .inl (fun _ => 0))), (msh, .inl (cI, 8, .inl (fun _ => 0))), (mce, .inl (cJ, 1280, .inr (.inl (fun _ => 0)))), (mca, .inl (cJ, 160, .inr (.inl (fun _ => 0)))), (mwo, .inl (cI, 64, .inl fw_)), (mnu, .inl (cI, 10, .inl fn_)), (mte, .inl (cI, 3, .inl (fun _ => 0))), (mwa, .inl (cI, 130, .inl (fun _ => 0))), (mke, .inl (cI, 130, .inl (fun _ => 0))), (mma, .inl (cI, 3, .inl (fun _ => 0))), (mth, .inl (cI, 3, .inl (fun _ => 0))), (mtr, .inl (cI, 20, .inl (fun _ => 0)))]) ⟨hx, hb, hml, hown, hts⟩ (c_M_freed l D cI cJ cZ cP cS m0 mrf mki mpa mta mla msl mco mhe mso msi msh mce mca mwo mnu mte mwa mke mma mth mtr (a_3) (a_6)  H.size) (cwV 2 hts gq_102 rfl rfl rfl (by decide +kernel) ⟨Nat.le_of_ble_eq_true rfl, Nat.le_of_ble_eq_true rfl⟩) hK hN (hZ.kept hS) hP hD hS hA [0, 1, 8] [2, 3, 4, 5, 6, 7, 9, 10, 11, 12, 13, 14, 15, 16, 17, 18, 19, 20, 21] rfl rfl (by decide) (by decide) (by decide) (va_recv hK hP (ci := 8) (q0 := 0) rfl rfl) rfl hl.1 rfl (Nat.le_of_ble_eq_true rfl) dL_law_919 ⟨Nat.le_of_ble_eq_true rfl, Nat.le_of_ble_eq_true rfl⟩ (fun r_48 u_49 H locs hr_48 hP hD hS => ?_)
    replace hP : va_P D vwCl [(mki, .inl (cI, 8, .inl (fun _ => 0))), (mpa, .inl (cI, 8, .inl (fun _ => 0))), (mta, .inl (cI, 8, .inl (fun _ => 0))), (mla, .inl (cI, 40, .inl (fun _ => 0))), (msl, .inl (cI, 40, .inl (fun _ => 0))), (mco, .inl (cI, 3, .inl (zL3 5 10 50))), (mso, .inl (cI, 8, .inl (fun _ => 0))), (msi, .inl (cI, 8, .inl (fun _ => 0))), (msh, .inl (cI, 8, .inl (fun _ => 0))), (mce, .inl (cJ, 1280, .inr (.inl (fun _ => 0)))), (mca, .inl (cJ, 160, .inr (.inl (fun _ => 0)))), (mwo, .inl (cI, 64, .inl fw_)), (mnu, .inl (cI, 10, .inl fn_)), (mte, .inl (cI, 3, .inl (fun _ => 0))), (mwa, .inl (cI, 130, .inl (fun _ => 0))), (mke, .inl (cI, 130, .inl (fun _ => 0))), (mma, .inl (cI, 3, .inl (fun _ => 0))), (mth, .inl (cI, 3, .inl (fun _ => 0))), (mtr, .inl (cI, 20, .inl (fun _ => 0)))] H := hP
    replace hD : va_D _ [(mki, .inl (cI, 8, .inl (fun _ => 0))), (mpa, .inl (cI, 8, .inl (fun _ => 0))), (mta, .inl (cI, 8, .inl (fun _ => 0))), (mla, .inl (cI, 40, .inl (fun _ => 0))), (msl, .inl (cI, 40, .inl (fun _ => 0))), (mco, .inl (cI, 3, .inl (zL3 5 10 50))), (mso, .inl (cI, 8, .inl (fun _ => 0))), (msi, .inl (cI, 8, .inl (fun _ => 0))), (msh, .inl (cI, 8, .inl (fun _ => 0))), (mce, .inl (cJ, 1280, .inr (.inl (fun _ => 0)))), (mca, .inl (cJ, 160, .inr (.inl (fun _ => 0)))), (mwo, .inl (cI, 64, .inl fw_)), (mnu, .inl (cI, 10, .inl fn_)), (mte, .inl (cI, 3, .inl (fun _ => 0))), (mwa, .inl (cI, 130, .inl (fun _ => 0))), (mke, .inl (cI, 130, .inl (fun _ => 0))), (mma, .inl (cI, 3, .inl (fun _ => 0))), (mth, .inl (cI, 3, .inl (fun _ => 0))), (mtr, .inl (cI, 20, .inl (fun _ => 0)))] := hD
    rcases hr_48 with ⟨rfl, g_50⟩ | ⟨rfl, g_51, g_52⟩ | ⟨rfl, g_53, g_54, g_55⟩ | ⟨rfl, g_56, g_57, g_58⟩
    · refine lv_icmp_eq (tgt := 1371) hx hb dL_law_922 (by decide) (fun c_59 => ?_) (fun c_59 => ?_)
      · refine lv_iinc (v := 6) (lv' := [(3, .int 6), (2, .ref m0), (1, .ref x0), (0, .ref b)]) hx hb dL_law_1371 hl (k := 0) rfl (by decide) (by decide) rfl (fun ls hl => ?_)
        refine lv_goto (tgt := 18) hx hb dL_law_1374 (by decide) ?_
        refine lv_iload_n hx hb dL_law_18 rfl (lv_at hl 0 rfl) ?_
        refine lv_aload_n hx hb dL_law_19 rfl (lv_at hl 3 rfl) ?_
        refine va_slen hx hb hX hbl hbA hS dL_law_20 ?_
        refine lv_topi (fun y_60 ey_60 => ?_)
        obtain rfl : y_60 = 6 := ey_60.trans (by decide)
        refine lv_bipush (v := 6) hx hb dL_law_21 (by decide) ?_
        refine lv_isub hx hb dL_law_23 ?_
        refine lv_topi (fun y_61 ey_61 => ?_)
        obtain rfl : y_61 = 0 := ey_61.trans (by decide)
        refine lv_icmp_gt (tgt := 1377) hx hb dL_law_24 (by decide) (fun c_62 => ?_) (fun c_62 => ?_)
        · refine lv_iconst (v := 1) hx hb dL_law_1377 (by decide) ?_
          refine va_forget (fun q hq => hS.2.2 q hq) ?_
          refine W.widen (k := 600000) (n := 7302250) (Nat.le_of_ble_eq_true rfl) (Nat.le_of_ble_eq_true rfl) ?_
          exact lw_ret hx hb hr hlocks dL_law_1378
        · exact absurd c_62 (by decide)
      · exact absurd c_59 (by decide)
    · exfalso; omega
    · exfalso; omega
    · exfalso; omega
  · refine lv_aload_n hx hb dL_law_908 rfl (lv_at hl 1 rfl) ?_
    refine lv_aload_n hx hb dL_law_909 rfl (lv_at hl 3 rfl) ?_
    refine lv_iload_n hx hb dL_law_910 rfl (lv_at hl 0 rfl) ?_
    refine lv_iconst (v := 1) hx hb dL_law_911 (by decide) ?_
    refine lv_iadd hx hb dL_law_912 ?_
    refine lv_topi (fun y_63 ey_63 => ?_)
    obtain rfl : y_63 = 1 := ey_63.trans (by decide)
    refine va_sld hx hb hX hbl hbA hS (zf_in (by decide) (by decide)) dL_law_913 ?_
    refine lv_topi (fun y_64 ey_64 => ?_)
    obtain rfl : a_3 = y_64 := ea_3.trans ey_64.symm
    refine lv_aload_n hx hb dL_law_914 rfl (lv_at hl 3 rfl) ?_
    refine lv_iload_n hx hb dL_law_915 rfl (lv_at hl 0 rfl) ?_
    refine lv_iconst (v := 2) hx hb dL_law_916 (by decide) ?_
    refine lv_iadd hx hb dL_law_917 ?_
    refine lv_topi (fun y_65 ey_65 => ?_)
    obtain rfl : y_65 = 2 := ey_65.trans (by decide)
    refine va_sld hx hb hX hbl hbA hS (zf_in (by decide) (by decide)) dL_law_918 ?_
    refine lv_topi (fun y_66 ey_66 => ?_)
    obtain rfl : a_6 = y_66 := ea_6.trans ey_66.symm
    skip
    refine zw_V (As := [.int a_3, .int a_6]) (rest := [.int (-1)]) (wr := [(mki, .inl (cI, 8, .inl (fun _ => 0))), (mpa, .inl (cI, 8, .inl (fun _ => 0))), (mta, .inl (cI, 8, .inl (fun _ => 0))), (mla, .inl (cI, 40, .inl (fun _ => 0))), (msl, .inl (cI, 40, .inl (fun _ => 0))), (mco, .inl (cI, 3, .inl (zL3 5 10 50))), (mso, .inl (cI, 8, .inl (fun _ => 0))), (msi, .inl (cI, 8, .inl (fun _ => 0))), (msh, .inl (cI, 8, .inl (fun _ => 0))), (mce, .inl (cJ, 1280, .inr (.inl (fun _ => 0)))), (mca, .inl (cJ, 160, .inr (.inl (fun _ => 0)))), (mwo, .inl (cI, 64, .inl fw_)), (mnu, .inl (cI, 10, .inl fn_)), (mte, .inl (cI, 3, .inl (fun _ => 0))), (mwa, .inl (cI, 130, .inl (fun _ => 0))), (mke, .inl (cI, 130, .inl (fun _ => 0))), (mma, .inl (cI, 3, .inl (fun _ => 0))), (mth, .inl (cI, 3, .inl (fun _ => 0))), (mtr, .inl (cI, 20, .inl (fun _ => 0)))]) ⟨hx, hb, hml, hown, hts⟩ (c_M_freed l D cI cJ cZ cP cS m0 mrf mki mpa mta mla msl mco mhe mso msi msh mce mca mwo mnu mte mwa mke mma mth mtr (a_3) (a_6)  H.size) (cwV 2 hts gq_102 rfl rfl rfl (by decide +kernel) ⟨Nat.le_of_ble_eq_true rfl, Nat.le_of_ble_eq_true rfl⟩) hK hN (hZ.kept hS) hP hD hS hA [0, 1, 8] [2, 3, 4, 5, 6, 7, 9, 10, 11, 12, 13, 14, 15, 16, 17, 18, 19, 20, 21] rfl rfl (by decide) (by decide) (by decide) (va_recv hK hP (ci := 8) (q0 := 0) rfl rfl) rfl hl.1 rfl (Nat.le_of_ble_eq_true rfl) dL_law_919 ⟨Nat.le_of_ble_eq_true rfl, Nat.le_of_ble_eq_true rfl⟩ (fun r_67 u_68 H locs hr_67 hP hD hS => ?_)
    replace hP : va_P D vwCl [(mki, .inl (cI, 8, .inl (fun _ => 0))), (mpa, .inl (cI, 8, .inl (fun _ => 0))), (mta, .inl (cI, 8, .inl (fun _ => 0))), (mla, .inl (cI, 40, .inl (fun _ => 0))), (msl, .inl (cI, 40, .inl (fun _ => 0))), (mco, .inl (cI, 3, .inl (zL3 5 10 50))), (mso, .inl (cI, 8, .inl (fun _ => 0))), (msi, .inl (cI, 8, .inl (fun _ => 0))), (msh, .inl (cI, 8, .inl (fun _ => 0))), (mce, .inl (cJ, 1280, .inr (.inl (fun _ => 0)))), (mca, .inl (cJ, 160, .inr (.inl (fun _ => 0)))), (mwo, .inl (cI, 64, .inl fw_)), (mnu, .inl (cI, 10, .inl fn_)), (mte, .inl (cI, 3, .inl (fun _ => 0))), (mwa, .inl (cI, 130, .inl (fun _ => 0))), (mke, .inl (cI, 130, .inl (fun _ => 0))), (mma, .inl (cI, 3, .inl (fun _ => 0))), (mth, .inl (cI, 3, .inl (fun _ => 0))), (mtr, .inl (cI, 20, .inl (fun _ => 0)))] H := hP
    replace hD : va_D _ [(mki, .inl (cI, 8, .inl (fun _ => 0))), (mpa, .inl (cI, 8, .inl (fun _ => 0))), (mta, .inl (cI, 8, .inl (fun _ => 0))), (mla, .inl (cI, 40, .inl (fun _ => 0))), (msl, .inl (cI, 40, .inl (fun _ => 0))), (mco, .inl (cI, 3, .inl (zL3 5 10 50))), (mso, .inl (cI, 8, .inl (fun _ => 0))), (msi, .inl (cI, 8, .inl (fun _ => 0))), (msh, .inl (cI, 8, .inl (fun _ => 0))), (mce, .inl (cJ, 1280, .inr (.inl (fun _ => 0)))), (mca, .inl (cJ, 160, .inr (.inl (fun _ => 0)))), (mwo, .inl (cI, 64, .inl fw_)), (mnu, .inl (cI, 10, .inl fn_)), (mte, .inl (cI, 3, .inl (fun _ => 0))), (mwa, .inl (cI, 130, .inl (fun _ => 0))), (mke, .inl (cI, 130, .inl (fun _ => 0))), (mma, .inl (cI, 3, .inl (fun _ => 0))), (mth, .inl (cI, 3, .inl (fun _ => 0))), (mtr, .inl (cI, 20, .inl (fun _ => 0)))] := hD
    rcases hr_67 with ⟨rfl, g_69⟩ | ⟨rfl, g_70, g_71⟩ | ⟨rfl, g_72, g_73, g_74⟩ | ⟨rfl, g_75, g_76, g_77⟩
    · exfalso; omega
    · refine lv_icmp_eq (tgt := 1371) hx hb dL_law_922 (by decide) (fun c_78 => ?_) (fun c_78 => ?_)
      · refine lv_iinc (v := 6) (lv' := [(3, .int 6), (2, .ref m0), (1, .ref x0), (0, .ref b)]) hx hb dL_law_1371 hl (k := 0) rfl (by decide) (by decide) rfl (fun ls hl => ?_)
        refine lv_goto (tgt := 18) hx hb dL_law_1374 (by decide) ?_
        refine lv_iload_n hx hb dL_law_18 rfl (lv_at hl 0 rfl) ?_
        refine lv_aload_n hx hb dL_law_19 rfl (lv_at hl 3 rfl) ?_
        refine va_slen hx hb hX hbl hbA hS dL_law_20 ?_
        refine lv_topi (fun y_79 ey_79 => ?_)
        obtain rfl : y_79 = 6 := ey_79.trans (by decide)
        refine lv_bipush (v := 6) hx hb dL_law_21 (by decide) ?_
        refine lv_isub hx hb dL_law_23 ?_
        refine lv_topi (fun y_80 ey_80 => ?_)
        obtain rfl : y_80 = 0 := ey_80.trans (by decide)
        refine lv_icmp_gt (tgt := 1377) hx hb dL_law_24 (by decide) (fun c_81 => ?_) (fun c_81 => ?_)
        · refine lv_iconst (v := 1) hx hb dL_law_1377 (by decide) ?_
          refine va_forget (fun q hq => hS.2.2 q hq) ?_
          refine W.widen (k := 600000) (n := 7302250) (Nat.le_of_ble_eq_true rfl) (Nat.le_of_ble_eq_true rfl) ?_
          exact lw_ret hx hb hr hlocks dL_law_1378
        · exact absurd c_81 (by decide)
      · exact absurd c_78 (by decide)
    · exfalso; omega
    · exfalso; omega
  · refine lv_aload_n hx hb dL_law_908 rfl (lv_at hl 1 rfl) ?_
    refine lv_aload_n hx hb dL_law_909 rfl (lv_at hl 3 rfl) ?_
    refine lv_iload_n hx hb dL_law_910 rfl (lv_at hl 0 rfl) ?_
    refine lv_iconst (v := 1) hx hb dL_law_911 (by decide) ?_
    refine lv_iadd hx hb dL_law_912 ?_
    refine lv_topi (fun y_82 ey_82 => ?_)
    obtain rfl : y_82 = 1 := ey_82.trans (by decide)
    refine va_sld hx hb hX hbl hbA hS (zf_in (by decide) (by decide)) dL_law_913 ?_
    refine lv_topi (fun y_83 ey_83 => ?_)
    obtain rfl : a_3 = y_83 := ea_3.trans ey_83.symm
    refine lv_aload_n hx hb dL_law_914 rfl (lv_at hl 3 rfl) ?_
    refine lv_iload_n hx hb dL_law_915 rfl (lv_at hl 0 rfl) ?_
    refine lv_iconst (v := 2) hx hb dL_law_916 (by decide) ?_
    refine lv_iadd hx hb dL_law_917 ?_
    refine lv_topi (fun y_84 ey_84 => ?_)
    obtain rfl : y_84 = 2 := ey_84.trans (by decide)
    refine va_sld hx hb hX hbl hbA hS (zf_in (by decide) (by decide)) dL_law_918 ?_
    refine lv_topi (fun y_85 ey_85 => ?_)
    obtain rfl : a_6 = y_85 := ea_6.trans ey_85.symm
    skip
    refine zw_V (As := [.int a_3, .int a_6]) (rest := [.int (-1)]) (wr := [(mki, .inl (cI, 8, .inl (fun _ => 0))), (mpa, .inl (cI, 8, .inl (fun _ => 0))), (mta, .inl (cI, 8, .inl (fun _ => 0))), (mla, .inl (cI, 40, .inl (fun _ => 0))), (msl, .inl (cI, 40, .inl (fun _ => 0))), (mco, .inl (cI, 3, .inl (zL3 5 10 50))), (mso, .inl (cI, 8, .inl (fun _ => 0))), (msi, .inl (cI, 8, .inl (fun _ => 0))), (msh, .inl (cI, 8, .inl (fun _ => 0))), (mce, .inl (cJ, 1280, .inr (.inl (fun _ => 0)))), (mca, .inl (cJ, 160, .inr (.inl (fun _ => 0)))), (mwo, .inl (cI, 64, .inl fw_)), (mnu, .inl (cI, 10, .inl fn_)), (mte, .inl (cI, 3, .inl (fun _ => 0))), (mwa, .inl (cI, 130, .inl (fun _ => 0))), (mke, .inl (cI, 130, .inl (fun _ => 0))), (mma, .inl (cI, 3, .inl (fun _ => 0))), (mth, .inl (cI, 3, .inl (fun _ => 0))), (mtr, .inl (cI, 20, .inl (fun _ => 0)))]) ⟨hx, hb, hml, hown, hts⟩ (c_M_freed l D cI cJ cZ cP cS m0 mrf mki mpa mta mla msl mco mhe mso msi msh mce mca mwo mnu mte mwa mke mma mth mtr (a_3) (a_6)  H.size) (cwV 2 hts gq_102 rfl rfl rfl (by decide +kernel) ⟨Nat.le_of_ble_eq_true rfl, Nat.le_of_ble_eq_true rfl⟩) hK hN (hZ.kept hS) hP hD hS hA [0, 1, 8] [2, 3, 4, 5, 6, 7, 9, 10, 11, 12, 13, 14, 15, 16, 17, 18, 19, 20, 21] rfl rfl (by decide) (by decide) (by decide) (va_recv hK hP (ci := 8) (q0 := 0) rfl rfl) rfl hl.1 rfl (Nat.le_of_ble_eq_true rfl) dL_law_919 ⟨Nat.le_of_ble_eq_true rfl, Nat.le_of_ble_eq_true rfl⟩ (fun r_86 u_87 H locs hr_86 hP hD hS => ?_)
    replace hP : va_P D vwCl [(mki, .inl (cI, 8, .inl (fun _ => 0))), (mpa, .inl (cI, 8, .inl (fun _ => 0))), (mta, .inl (cI, 8, .inl (fun _ => 0))), (mla, .inl (cI, 40, .inl (fun _ => 0))), (msl, .inl (cI, 40, .inl (fun _ => 0))), (mco, .inl (cI, 3, .inl (zL3 5 10 50))), (mso, .inl (cI, 8, .inl (fun _ => 0))), (msi, .inl (cI, 8, .inl (fun _ => 0))), (msh, .inl (cI, 8, .inl (fun _ => 0))), (mce, .inl (cJ, 1280, .inr (.inl (fun _ => 0)))), (mca, .inl (cJ, 160, .inr (.inl (fun _ => 0)))), (mwo, .inl (cI, 64, .inl fw_)), (mnu, .inl (cI, 10, .inl fn_)), (mte, .inl (cI, 3, .inl (fun _ => 0))), (mwa, .inl (cI, 130, .inl (fun _ => 0))), (mke, .inl (cI, 130, .inl (fun _ => 0))), (mma, .inl (cI, 3, .inl (fun _ => 0))), (mth, .inl (cI, 3, .inl (fun _ => 0))), (mtr, .inl (cI, 20, .inl (fun _ => 0)))] H := hP
    replace hD : va_D _ [(mki, .inl (cI, 8, .inl (fun _ => 0))), (mpa, .inl (cI, 8, .inl (fun _ => 0))), (mta, .inl (cI, 8, .inl (fun _ => 0))), (mla, .inl (cI, 40, .inl (fun _ => 0))), (msl, .inl (cI, 40, .inl (fun _ => 0))), (mco, .inl (cI, 3, .inl (zL3 5 10 50))), (mso, .inl (cI, 8, .inl (fun _ => 0))), (msi, .inl (cI, 8, .inl (fun _ => 0))), (msh, .inl (cI, 8, .inl (fun _ => 0))), (mce, .inl (cJ, 1280, .inr (.inl (fun _ => 0)))), (mca, .inl (cJ, 160, .inr (.inl (fun _ => 0)))), (mwo, .inl (cI, 64, .inl fw_)), (mnu, .inl (cI, 10, .inl fn_)), (mte, .inl (cI, 3, .inl (fun _ => 0))), (mwa, .inl (cI, 130, .inl (fun _ => 0))), (mke, .inl (cI, 130, .inl (fun _ => 0))), (mma, .inl (cI, 3, .inl (fun _ => 0))), (mth, .inl (cI, 3, .inl (fun _ => 0))), (mtr, .inl (cI, 20, .inl (fun _ => 0)))] := hD
    rcases hr_86 with ⟨rfl, g_88⟩ | ⟨rfl, g_89, g_90⟩ | ⟨rfl, g_91, g_92, g_93⟩ | ⟨rfl, g_94, g_95, g_96⟩
    · exfalso; omega
    · refine lv_icmp_eq (tgt := 1371) hx hb dL_law_922 (by decide) (fun c_97 => ?_) (fun c_97 => ?_)
      · refine lv_iinc (v := 6) (lv' := [(3, .int 6), (2, .ref m0), (1, .ref x0), (0, .ref b)]) hx hb dL_law_1371 hl (k := 0) rfl (by decide) (by decide) rfl (fun ls hl => ?_)
        refine lv_goto (tgt := 18) hx hb dL_law_1374 (by decide) ?_
        refine lv_iload_n hx hb dL_law_18 rfl (lv_at hl 0 rfl) ?_
        refine lv_aload_n hx hb dL_law_19 rfl (lv_at hl 3 rfl) ?_
        refine va_slen hx hb hX hbl hbA hS dL_law_20 ?_
        refine lv_topi (fun y_98 ey_98 => ?_)
        obtain rfl : y_98 = 6 := ey_98.trans (by decide)
        refine lv_bipush (v := 6) hx hb dL_law_21 (by decide) ?_
        refine lv_isub hx hb dL_law_23 ?_
        refine lv_topi (fun y_99 ey_99 => ?_)
        obtain rfl : y_99 = 0 := ey_99.trans (by decide)
        refine lv_icmp_gt (tgt := 1377) hx hb dL_law_24 (by decide) (fun c_100 => ?_) (fun c_100 => ?_)
        · refine lv_iconst (v := 1) hx hb dL_law_1377 (by decide) ?_
          refine va_forget (fun q hq => hS.2.2 q hq) ?_
          refine W.widen (k := 600000) (n := 7302250) (Nat.le_of_ble_eq_true rfl) (Nat.le_of_ble_eq_true rfl) ?_
          exact lw_ret hx hb hr hlocks dL_law_1378
        · exact absurd c_100 (by decide)
      · exact absurd c_97 (by decide)
    · exfalso; omega
    · exfalso; omega
  · refine lv_aload_n hx hb dL_law_908 rfl (lv_at hl 1 rfl) ?_
    refine lv_aload_n hx hb dL_law_909 rfl (lv_at hl 3 rfl) ?_
    refine lv_iload_n hx hb dL_law_910 rfl (lv_at hl 0 rfl) ?_
    refine lv_iconst (v := 1) hx hb dL_law_911 (by decide) ?_
    refine lv_iadd hx hb dL_law_912 ?_
    refine lv_topi (fun y_101 ey_101 => ?_)
    obtain rfl : y_101 = 1 := ey_101.trans (by decide)
    refine va_sld hx hb hX hbl hbA hS (zf_in (by decide) (by decide)) dL_law_913 ?_
    refine lv_topi (fun y_102 ey_102 => ?_)
    obtain rfl : a_3 = y_102 := ea_3.trans ey_102.symm
    refine lv_aload_n hx hb dL_law_914 rfl (lv_at hl 3 rfl) ?_
    refine lv_iload_n hx hb dL_law_915 rfl (lv_at hl 0 rfl) ?_
    refine lv_iconst (v := 2) hx hb dL_law_916 (by decide) ?_
    refine lv_iadd hx hb dL_law_917 ?_
    refine lv_topi (fun y_103 ey_103 => ?_)
    obtain rfl : y_103 = 2 := ey_103.trans (by decide)
    refine va_sld hx hb hX hbl hbA hS (zf_in (by decide) (by decide)) dL_law_918 ?_
    refine lv_topi (fun y_104 ey_104 => ?_)
    obtain rfl : a_6 = y_104 := ea_6.trans ey_104.symm
    skip
    refine zw_V (As := [.int a_3, .int a_6]) (rest := [.int (-1)]) (wr := [(mki, .inl (cI, 8, .inl (fun _ => 0))), (mpa, .inl (cI, 8, .inl (fun _ => 0))), (mta, .inl (cI, 8, .inl (fun _ => 0))), (mla, .inl (cI, 40, .inl (fun _ => 0))), (msl, .inl (cI, 40, .inl (fun _ => 0))), (mco, .inl (cI, 3, .inl (zL3 5 10 50))), (mso, .inl (cI, 8, .inl (fun _ => 0))), (msi, .inl (cI, 8, .inl (fun _ => 0))), (msh, .inl (cI, 8, .inl (fun _ => 0))), (mce, .inl (cJ, 1280, .inr (.inl (fun _ => 0)))), (mca, .inl (cJ, 160, .inr (.inl (fun _ => 0)))), (mwo, .inl (cI, 64, .inl fw_)), (mnu, .inl (cI, 10, .inl fn_)), (mte, .inl (cI, 3, .inl (fun _ => 0))), (mwa, .inl (cI, 130, .inl (fun _ => 0))), (mke, .inl (cI, 130, .inl (fun _ => 0))), (mma, .inl (cI, 3, .inl (fun _ => 0))), (mth, .inl (cI, 3, .inl (fun _ => 0))), (mtr, .inl (cI, 20, .inl (fun _ => 0)))]) ⟨hx, hb, hml, hown, hts⟩ (c_M_freed l D cI cJ cZ cP cS m0 mrf mki mpa mta mla msl mco mhe mso msi msh mce mca mwo mnu mte mwa mke mma mth mtr (a_3) (a_6)  H.size) (cwV 2 hts gq_102 rfl rfl rfl (by decide +kernel) ⟨Nat.le_of_ble_eq_true rfl, Nat.le_of_ble_eq_true rfl⟩) hK hN (hZ.kept hS) hP hD hS hA [0, 1, 8] [2, 3, 4, 5, 6, 7, 9, 10, 11, 12, 13, 14, 15, 16, 17, 18, 19, 20, 21] rfl rfl (by decide) (by decide) (by decide) (va_recv hK hP (ci := 8) (q0 := 0) rfl rfl) rfl hl.1 rfl (Nat.le_of_ble_eq_true rfl) dL_law_919 ⟨Nat.le_of_ble_eq_true rfl, Nat.le_of_ble_eq_true rfl⟩ (fun r_105 u_106 H locs hr_105 hP hD hS => ?_)
    replace hP : va_P D vwCl [(mki, .inl (cI, 8, .inl (fun _ => 0))), (mpa, .inl (cI, 8, .inl (fun _ => 0))), (mta, .inl (cI, 8, .inl (fun _ => 0))), (mla, .inl (cI, 40, .inl (fun _ => 0))), (msl, .inl (cI, 40, .inl (fun _ => 0))), (mco, .inl (cI, 3, .inl (zL3 5 10 50))), (mso, .inl (cI, 8, .inl (fun _ => 0))), (msi, .inl (cI, 8, .inl (fun _ => 0))), (msh, .inl (cI, 8, .inl (fun _ => 0))), (mce, .inl (cJ, 1280, .inr (.inl (fun _ => 0)))), (mca, .inl (cJ, 160, .inr (.inl (fun _ => 0)))), (mwo, .inl (cI, 64, .inl fw_)), (mnu, .inl (cI, 10, .inl fn_)), (mte, .inl (cI, 3, .inl (fun _ => 0))), (mwa, .inl (cI, 130, .inl (fun _ => 0))), (mke, .inl (cI, 130, .inl (fun _ => 0))), (mma, .inl (cI, 3, .inl (fun _ => 0))), (mth, .inl (cI, 3, .inl (fun _ => 0))), (mtr, .inl (cI, 20, .inl (fun _ => 0)))] H := hP
    replace hD : va_D _ [(mki, .inl (cI, 8, .inl (fun _ => 0))), (mpa, .inl (cI, 8, .inl (fun _ => 0))), (mta, .inl (cI, 8, .inl (fun _ => 0))), (mla, .inl (cI, 40, .inl (fun _ => 0))), (msl, .inl (cI, 40, .inl (fun _ => 0))), (mco, .inl (cI, 3, .inl (zL3 5 10 50))), (mso, .inl (cI, 8, .inl (fun _ => 0))), (msi, .inl (cI, 8, .inl (fun _ => 0))), (msh, .inl (cI, 8, .inl (fun _ => 0))), (mce, .inl (cJ, 1280, .inr (.inl (fun _ => 0)))), (mca, .inl (cJ, 160, .inr (.inl (fun _ => 0)))), (mwo, .inl (cI, 64, .inl fw_)), (mnu, .inl (cI, 10, .inl fn_)), (mte, .inl (cI, 3, .inl (fun _ => 0))), (mwa, .inl (cI, 130, .inl (fun _ => 0))), (mke, .inl (cI, 130, .inl (fun _ => 0))), (mma, .inl (cI, 3, .inl (fun _ => 0))), (mth, .inl (cI, 3, .inl (fun _ => 0))), (mtr, .inl (cI, 20, .inl (fun _ => 0)))] := hD
    rcases hr_105 with ⟨rfl, g_107⟩ | ⟨rfl, g_108, g_109⟩ | ⟨rfl, g_110, g_111, g_112⟩ | ⟨rfl, g_113, g_114, g_115⟩
    · exfalso; omega
    · exfalso; omega
    · refine lv_icmp_eq (tgt := 1371) hx hb dL_law_922 (by decide) (fun c_116 => ?_) (fun c_116 => ?_)
      · refine lv_iinc (v := 6) (lv' := [(3, .int 6), (2, .ref m0), (1, .ref x0), (0, .ref b)]) hx hb dL_law_1371 hl (k := 0) rfl (by decide) (by decide) rfl (fun ls hl => ?_)
        refine lv_goto (tgt := 18) hx hb dL_law_1374 (by decide) ?_
        refine lv_iload_n hx hb dL_law_18 rfl (lv_at hl 0 rfl) ?_
        refine lv_aload_n hx hb dL_law_19 rfl (lv_at hl 3 rfl) ?_
        refine va_slen hx hb hX hbl hbA hS dL_law_20 ?_
        refine lv_topi (fun y_117 ey_117 => ?_)
        obtain rfl : y_117 = 6 := ey_117.trans (by decide)
        refine lv_bipush (v := 6) hx hb dL_law_21 (by decide) ?_
        refine lv_isub hx hb dL_law_23 ?_
        refine lv_topi (fun y_118 ey_118 => ?_)
        obtain rfl : y_118 = 0 := ey_118.trans (by decide)
        refine lv_icmp_gt (tgt := 1377) hx hb dL_law_24 (by decide) (fun c_119 => ?_) (fun c_119 => ?_)
        · refine lv_iconst (v := 1) hx hb dL_law_1377 (by decide) ?_
          refine va_forget (fun q hq => hS.2.2 q hq) ?_
          refine W.widen (k := 600000) (n := 7302250) (Nat.le_of_ble_eq_true rfl) (Nat.le_of_ble_eq_true rfl) ?_
          exact lw_ret hx hb hr hlocks dL_law_1378
        · exact absurd c_119 (by decide)
      · exact absurd c_116 (by decide)
    · exfalso; omega
  · refine lv_aload_n hx hb dL_law_908 rfl (lv_at hl 1 rfl) ?_
    refine lv_aload_n hx hb dL_law_909 rfl (lv_at hl 3 rfl) ?_
    refine lv_iload_n hx hb dL_law_910 rfl (lv_at hl 0 rfl) ?_
    refine lv_iconst (v := 1) hx hb dL_law_911 (by decide) ?_
    refine lv_iadd hx hb dL_law_912 ?_
    refine lv_topi (fun y_120 ey_120 => ?_)
    obtain rfl : y_120 = 1 := ey_120.trans (by decide)
    refine va_sld hx hb hX hbl hbA hS (zf_in (by decide) (by decide)) dL_law_913 ?_
    refine lv_topi (fun y_121 ey_121 => ?_)
    obtain rfl : a_3 = y_121 := ea_3.trans ey_121.symm
    refine lv_aload_n hx hb dL_law_914 rfl (lv_at hl 3 rfl) ?_
    refine lv_iload_n hx hb dL_law_915 rfl (lv_at hl 0 rfl) ?_
    refine lv_iconst (v := 2) hx hb dL_law_916 (by decide) ?_
    refine lv_iadd hx hb dL_law_917 ?_
    refine lv_topi (fun y_122 ey_122 => ?_)
    obtain rfl : y_122 = 2 := ey_122.trans (by decide)
    refine va_sld hx hb hX hbl hbA hS (zf_in (by decide) (by decide)) dL_law_918 ?_
    refine lv_topi (fun y_123 ey_123 => ?_)
    obtain rfl : a_6 = y_123 := ea_6.trans ey_123.symm
    skip
    refine zw_V (As := [.int a_3, .int a_6]) (rest := [.int (-1)]) (wr := [(mki, .inl (cI, 8, .inl (fun _ => 0))), (mpa, .inl (cI, 8, .inl (fun _ => 0))), (mta, .inl (cI, 8, .inl (fun _ => 0))), (mla, .inl (cI, 40, .inl (fun _ => 0))), (msl, .inl (cI, 40, .inl (fun _ => 0))), (mco, .inl (cI, 3, .inl (zL3 5 10 50))), (mso, .inl (cI, 8, .inl (fun _ => 0))), (msi, .inl (cI, 8, .inl (fun _ => 0))), (msh, .inl (cI, 8, .inl (fun _ => 0))), (mce, .inl (cJ, 1280, .inr (.inl (fun _ => 0)))), (mca, .inl (cJ, 160, .inr (.inl (fun _ => 0)))), (mwo, .inl (cI, 64, .inl fw_)), (mnu, .inl (cI, 10, .inl fn_)), (mte, .inl (cI, 3, .inl (fun _ => 0))), (mwa, .inl (cI, 130, .inl (fun _ => 0))), (mke, .inl (cI, 130, .inl (fun _ => 0))), (mma, .inl (cI, 3, .inl (fun _ => 0))), (mth, .inl (cI, 3, .inl (fun _ => 0))), (mtr, .inl (cI, 20, .inl (fun _ => 0)))]) ⟨hx, hb, hml, hown, hts⟩ (c_M_freed l D cI cJ cZ cP cS m0 mrf mki mpa mta mla msl mco mhe mso msi msh mce mca mwo mnu mte mwa mke mma mth mtr (a_3) (a_6)  H.size) (cwV 2 hts gq_102 rfl rfl rfl (by decide +kernel) ⟨Nat.le_of_ble_eq_true rfl, Nat.le_of_ble_eq_true rfl⟩) hK hN (hZ.kept hS) hP hD hS hA [0, 1, 8] [2, 3, 4, 5, 6, 7, 9, 10, 11, 12, 13, 14, 15, 16, 17, 18, 19, 20, 21] rfl rfl (by decide) (by decide) (by decide) (va_recv hK hP (ci := 8) (q0 := 0) rfl rfl) rfl hl.1 rfl (Nat.le_of_ble_eq_true rfl) dL_law_919 ⟨Nat.le_of_ble_eq_true rfl, Nat.le_of_ble_eq_true rfl⟩ (fun r_124 u_125 H locs hr_124 hP hD hS => ?_)
    replace hP : va_P D vwCl [(mki, .inl (cI, 8, .inl (fun _ => 0))), (mpa, .inl (cI, 8, .inl (fun _ => 0))), (mta, .inl (cI, 8, .inl (fun _ => 0))), (mla, .inl (cI, 40, .inl (fun _ => 0))), (msl, .inl (cI, 40, .inl (fun _ => 0))), (mco, .inl (cI, 3, .inl (zL3 5 10 50))), (mso, .inl (cI, 8, .inl (fun _ => 0))), (msi, .inl (cI, 8, .inl (fun _ => 0))), (msh, .inl (cI, 8, .inl (fun _ => 0))), (mce, .inl (cJ, 1280, .inr (.inl (fun _ => 0)))), (mca, .inl (cJ, 160, .inr (.inl (fun _ => 0)))), (mwo, .inl (cI, 64, .inl fw_)), (mnu, .inl (cI, 10, .inl fn_)), (mte, .inl (cI, 3, .inl (fun _ => 0))), (mwa, .inl (cI, 130, .inl (fun _ => 0))), (mke, .inl (cI, 130, .inl (fun _ => 0))), (mma, .inl (cI, 3, .inl (fun _ => 0))), (mth, .inl (cI, 3, .inl (fun _ => 0))), (mtr, .inl (cI, 20, .inl (fun _ => 0)))] H := hP
    replace hD : va_D _ [(mki, .inl (cI, 8, .inl (fun _ => 0))), (mpa, .inl (cI, 8, .inl (fun _ => 0))), (mta, .inl (cI, 8, .inl (fun _ => 0))), (mla, .inl (cI, 40, .inl (fun _ => 0))), (msl, .inl (cI, 40, .inl (fun _ => 0))), (mco, .inl (cI, 3, .inl (zL3 5 10 50))), (mso, .inl (cI, 8, .inl (fun _ => 0))), (msi, .inl (cI, 8, .inl (fun _ => 0))), (msh, .inl (cI, 8, .inl (fun _ => 0))), (mce, .inl (cJ, 1280, .inr (.inl (fun _ => 0)))), (mca, .inl (cJ, 160, .inr (.inl (fun _ => 0)))), (mwo, .inl (cI, 64, .inl fw_)), (mnu, .inl (cI, 10, .inl fn_)), (mte, .inl (cI, 3, .inl (fun _ => 0))), (mwa, .inl (cI, 130, .inl (fun _ => 0))), (mke, .inl (cI, 130, .inl (fun _ => 0))), (mma, .inl (cI, 3, .inl (fun _ => 0))), (mth, .inl (cI, 3, .inl (fun _ => 0))), (mtr, .inl (cI, 20, .inl (fun _ => 0)))] := hD
    rcases hr_124 with ⟨rfl, g_126⟩ | ⟨rfl, g_127, g_128⟩ | ⟨rfl, g_129, g_130, g_131⟩ | ⟨rfl, g_132, g_133, g_134⟩
    · exfalso; omega
    · exfalso; omega
    · exfalso; omega
    · refine lv_icmp_eq (tgt := 1371) hx hb dL_law_922 (by decide) (fun c_135 => ?_) (fun c_135 => ?_)
      · refine lv_iinc (v := 6) (lv' := [(3, .int 6), (2, .ref m0), (1, .ref x0), (0, .ref b)]) hx hb dL_law_1371 hl (k := 0) rfl (by decide) (by decide) rfl (fun ls hl => ?_)
        refine lv_goto (tgt := 18) hx hb dL_law_1374 (by decide) ?_
        refine lv_iload_n hx hb dL_law_18 rfl (lv_at hl 0 rfl) ?_
        refine lv_aload_n hx hb dL_law_19 rfl (lv_at hl 3 rfl) ?_
        refine va_slen hx hb hX hbl hbA hS dL_law_20 ?_
        refine lv_topi (fun y_136 ey_136 => ?_)
        obtain rfl : y_136 = 6 := ey_136.trans (by decide)
        refine lv_bipush (v := 6) hx hb dL_law_21 (by decide) ?_
        refine lv_isub hx hb dL_law_23 ?_
        refine lv_topi (fun y_137 ey_137 => ?_)
        obtain rfl : y_137 = 0 := ey_137.trans (by decide)
        refine lv_icmp_gt (tgt := 1377) hx hb dL_law_24 (by decide) (fun c_138 => ?_) (fun c_138 => ?_)
        · refine lv_iconst (v := 1) hx hb dL_law_1377 (by decide) ?_
          refine va_forget (fun q hq => hS.2.2 q hq) ?_
          refine W.widen (k := 600000) (n := 7302250) (Nat.le_of_ble_eq_true rfl) (Nat.le_of_ble_eq_true rfl) ?_
          exact lw_ret hx hb hr hlocks dL_law_1378
        · exact absurd c_138 (by decide)
      · exact absurd c_135 (by decide)
set_option maxHeartbeats 8000000 in
set_option maxRecDepth 100000 in
theorem law_case_20 {p : Program} {l : Launch} {e : Env} {s : State} {m : MethodId} {below : List Frame} {meth : Method} {c : Code} {D : va_G} {cI cJ cZ cP cS : ClassId} {b : Nat} {xs_ : Nat → Int32} (x0 xs j0 k0 w0 rd mv xr z0 jp jc zl zs kz kp kc kzl kzs wk wl wc wp ri rl mb m0 mrf mki mpa mta mla msl mco mhe mso msi msh mce mca mwo mnu mte mwa mke mma mth mtr : Nat) (sh el : Nat → Nat) (fw_ fn_ : Nat → Int32) (C0 : lw_At p s m meth c b 6 xs_) (hK : va_K D vwCl (zKT cI cJ cZ cP cS) s) (hN : zN s) (hZ : zSt (fun q : Nat => s.heap.size ≤ q) s s.heap) (H : Heap) (locs : List Loc) (hP : va_P D vwCl (zLW cI cJ cZ cP cS x0 xs j0 k0 w0 rd mv xr z0 jp jc zl zs kz kp kc kzl kzs wk wl wc wp ri rl mb m0 mrf mki mpa mta mla msl mco mhe mso msi msh mce mca mwo mnu mte mwa mke mma mth mtr sh el fw_ fn_) H) (hD : va_D (fun q : Nat => s.heap.size ≤ q) (zLW cI cJ cZ cP cS x0 xs j0 k0 w0 rd mv xr z0 jp jc zl zs kz kp kc kzl kzs wk wl wc wp ri rl mb m0 mrf mki mpa mta mla msl mco mhe mso msi msh mce mca mwo mnu mte mwa mke mma mth mtr sh el fw_ fn_)) (hS : va_S (fun q : Nat => s.heap.size ≤ q) s.heap H locs) (ls : Array Slot) (hl : lv_has ls 4 [(3, .int 0), (2, .ref m0), (1, .ref x0), (0, .ref b)]) : W p l e room_1 s m #[Value.ref b] below meth c H locs 100 10000 (lw_Z below #[Value.ref b] s) (F0 m 927 ls []) := by
  obtain ⟨hx, hb, hr, hml, hown0, hts, hX, hbl, hlocks, hgv⟩ := id C0
  have hown : s.vm.findClass RL = some m.cls := hown0
  have hA : ∀ q : Nat, s.heap.size ≤ q → (fun q : Nat => s.heap.size ≤ q) q := fun _ h => h
  have hbA : ¬ (fun q : Nat => s.heap.size ≤ q) b := Nat.not_le.mpr hbl
  replace hP : va_P D vwCl ((x0, .inr (7, [.ref xs, .ref j0, .ref k0, .ref w0, .ref rd, .ref mv, .ref xr, .int 0, .int (-1)])) :: (xs, .inl (cS, 8, .inr (.inr (.inr (.inr (zS sh)))))) :: (j0, .inr (0, [.ref z0, .ref jp, .ref jc, .int 0, .int 0, .int 0, .int 60, .int 0, .int 1])) :: (z0, .inr (6, [.ref zl, .ref zs, .int 20, .int 0, .int 3])) :: (zl, .inl (cZ, 40, .inl (fun _ => 0))) :: (zs, .inl (cI, 40, .inl (fun _ => 0))) :: (jp, .inl (cP, 8, .inr (.inr (.inr (.inr (fun _ => none)))))) :: (jc, .inl (cI, 3, .inl (zL3 5 10 50))) :: (k0, .inr (0, [.ref kz, .ref kp, .ref kc, .int 0, .int 0, .int 0, .int 60, .int 0, .int 1])) :: (kz, .inr (6, [.ref kzl, .ref kzs, .int 20, .int 0, .int 3])) :: (kzl, .inl (cZ, 40, .inl (fun _ => 0))) :: (kzs, .inl (cI, 40, .inl (fun _ => 0))) :: (kp, .inl (cP, 8, .inr (.inr (.inr (.inr (fun _ => none)))))) :: (kc, .inl (cI, 3, .inl (zL3 5 10 50))) :: (w0, .inr (5, [.ref wk, .ref wl, .ref wc, .ref wp, .int 0, .int 0, .int 0])) :: (wk, .inl (cI, 125, .inl (fun _ => 0))) :: (wl, .inl (cI, 125, .inl (fun _ => 0))) :: (wc, .inl (cI, 3, .inl (fun _ => 0))) :: (wp, .inl (cP, 8, .inr (.inr (.inr (.inr (fun _ => none)))))) :: (rd, .inr (3, [.ref ri, .ref rl, .int 0, .int 0, .int 0, .int (-1), .int 0, .int 0])) :: (ri, .inl (cI, 132, .inl (fun _ => 0))) :: (rl, .inl (cI, 160, .inl (fun _ => 0))) :: (mv, .inr (1, [.ref mb, .int 0, .int 0, .int 0, .int 0])) :: (mb, .inl (cI, 20, .inl (fun _ => 0))) :: (xr, .inl (cI, 8, .inl (fun _ => 0))) :: ((sh 0), .inr (4, [.ref (el 0), .int (-1), .int 0])) :: ((el 0), .inl (cJ, 160, .inr (.inl (fun _ => 0)))) :: ((sh 1), .inr (4, [.ref (el 1), .int (-1), .int 0])) :: ((el 1), .inl (cJ, 160, .inr (.inl (fun _ => 0)))) :: ((sh 2), .inr (4, [.ref (el 2), .int (-1), .int 0])) :: ((el 2), .inl (cJ, 160, .inr (.inl (fun _ => 0)))) :: ((sh 3), .inr (4, [.ref (el 3), .int (-1), .int 0])) :: ((el 3), .inl (cJ, 160, .inr (.inl (fun _ => 0)))) :: ((sh 4), .inr (4, [.ref (el 4), .int (-1), .int 0])) :: ((el 4), .inl (cJ, 160, .inr (.inl (fun _ => 0)))) :: ((sh 5), .inr (4, [.ref (el 5), .int (-1), .int 0])) :: ((el 5), .inl (cJ, 160, .inr (.inl (fun _ => 0)))) :: ((sh 6), .inr (4, [.ref (el 6), .int (-1), .int 0])) :: ((el 6), .inl (cJ, 160, .inr (.inl (fun _ => 0)))) :: ((sh 7), .inr (4, [.ref (el 7), .int (-1), .int 0])) :: ((el 7), .inl (cJ, 160, .inr (.inl (fun _ => 0)))) :: (m0, .inr (8, (.int 0 :: .int 20 :: .int 0 :: .int 0 :: .int 0 :: .int 60 :: .int 0 :: .int 3 :: .int 1 :: .int (-1) :: .ref mrf :: .ref mki :: .ref mpa :: .ref mta :: .ref mla :: .ref msl :: .ref mco :: .ref mhe :: .ref mso :: .ref msi :: .ref msh :: .ref mce :: .ref mca :: .ref mwo :: .ref mnu :: .ref mte :: .int 0 :: .int 0 :: .int 0 :: .int 0 :: .int 0 :: .ref mwa :: .ref mke :: .ref mma :: .ref mth :: .ref mtr :: .int 0 :: .int 0 :: []))) :: (mrf, .inl (cI, 8, .inl (fun _ => 0))) :: (mki, .inl (cI, 8, .inl (fun _ => 0))) :: (mpa, .inl (cI, 8, .inl (fun _ => 0))) :: (mta, .inl (cI, 8, .inl (fun _ => 0))) :: (mla, .inl (cI, 40, .inl (fun _ => 0))) :: (msl, .inl (cI, 40, .inl (fun _ => 0))) :: (mco, .inl (cI, 3, .inl (zL3 5 10 50))) :: (mhe, .inl (cI, 8, .inl (fun _ => 0))) :: (mso, .inl (cI, 8, .inl (fun _ => 0))) :: (msi, .inl (cI, 8, .inl (fun _ => 0))) :: (msh, .inl (cI, 8, .inl (fun _ => 0))) :: (mce, .inl (cJ, 1280, .inr (.inl (fun _ => 0)))) :: (mca, .inl (cJ, 160, .inr (.inl (fun _ => 0)))) :: (mwo, .inl (cI, 64, .inl fw_)) :: (mnu, .inl (cI, 10, .inl fn_)) :: (mte, .inl (cI, 3, .inl (fun _ => 0))) :: (mwa, .inl (cI, 130, .inl (fun _ => 0))) :: (mke, .inl (cI, 130, .inl (fun _ => 0))) :: (mma, .inl (cI, 3, .inl (fun _ => 0))) :: (mth, .inl (cI, 3, .inl (fun _ => 0))) :: (mtr, .inl (cI, 20, .inl (fun _ => 0))) :: []) H := hP
  replace hD : va_D _ ((x0, .inr (7, [.ref xs, .ref j0, .ref k0, .ref w0, .ref rd, .ref mv, .ref xr, .int 0, .int (-1)])) :: (xs, .inl (cS, 8, .inr (.inr (.inr (.inr (zS sh)))))) :: (j0, .inr (0, [.ref z0, .ref jp, .ref jc, .int 0, .int 0, .int 0, .int 60, .int 0, .int 1])) :: (z0, .inr (6, [.ref zl, .ref zs, .int 20, .int 0, .int 3])) :: (zl, .inl (cZ, 40, .inl (fun _ => 0))) :: (zs, .inl (cI, 40, .inl (fun _ => 0))) :: (jp, .inl (cP, 8, .inr (.inr (.inr (.inr (fun _ => none)))))) :: (jc, .inl (cI, 3, .inl (zL3 5 10 50))) :: (k0, .inr (0, [.ref kz, .ref kp, .ref kc, .int 0, .int 0, .int 0, .int 60, .int 0, .int 1])) :: (kz, .inr (6, [.ref kzl, .ref kzs, .int 20, .int 0, .int 3])) :: (kzl, .inl (cZ, 40, .inl (fun _ => 0))) :: (kzs, .inl (cI, 40, .inl (fun _ => 0))) :: (kp, .inl (cP, 8, .inr (.inr (.inr (.inr (fun _ => none)))))) :: (kc, .inl (cI, 3, .inl (zL3 5 10 50))) :: (w0, .inr (5, [.ref wk, .ref wl, .ref wc, .ref wp, .int 0, .int 0, .int 0])) :: (wk, .inl (cI, 125, .inl (fun _ => 0))) :: (wl, .inl (cI, 125, .inl (fun _ => 0))) :: (wc, .inl (cI, 3, .inl (fun _ => 0))) :: (wp, .inl (cP, 8, .inr (.inr (.inr (.inr (fun _ => none)))))) :: (rd, .inr (3, [.ref ri, .ref rl, .int 0, .int 0, .int 0, .int (-1), .int 0, .int 0])) :: (ri, .inl (cI, 132, .inl (fun _ => 0))) :: (rl, .inl (cI, 160, .inl (fun _ => 0))) :: (mv, .inr (1, [.ref mb, .int 0, .int 0, .int 0, .int 0])) :: (mb, .inl (cI, 20, .inl (fun _ => 0))) :: (xr, .inl (cI, 8, .inl (fun _ => 0))) :: ((sh 0), .inr (4, [.ref (el 0), .int (-1), .int 0])) :: ((el 0), .inl (cJ, 160, .inr (.inl (fun _ => 0)))) :: ((sh 1), .inr (4, [.ref (el 1), .int (-1), .int 0])) :: ((el 1), .inl (cJ, 160, .inr (.inl (fun _ => 0)))) :: ((sh 2), .inr (4, [.ref (el 2), .int (-1), .int 0])) :: ((el 2), .inl (cJ, 160, .inr (.inl (fun _ => 0)))) :: ((sh 3), .inr (4, [.ref (el 3), .int (-1), .int 0])) :: ((el 3), .inl (cJ, 160, .inr (.inl (fun _ => 0)))) :: ((sh 4), .inr (4, [.ref (el 4), .int (-1), .int 0])) :: ((el 4), .inl (cJ, 160, .inr (.inl (fun _ => 0)))) :: ((sh 5), .inr (4, [.ref (el 5), .int (-1), .int 0])) :: ((el 5), .inl (cJ, 160, .inr (.inl (fun _ => 0)))) :: ((sh 6), .inr (4, [.ref (el 6), .int (-1), .int 0])) :: ((el 6), .inl (cJ, 160, .inr (.inl (fun _ => 0)))) :: ((sh 7), .inr (4, [.ref (el 7), .int (-1), .int 0])) :: ((el 7), .inl (cJ, 160, .inr (.inl (fun _ => 0)))) :: (m0, .inr (8, (.int 0 :: .int 20 :: .int 0 :: .int 0 :: .int 0 :: .int 60 :: .int 0 :: .int 3 :: .int 1 :: .int (-1) :: .ref mrf :: .ref mki :: .ref mpa :: .ref mta :: .ref mla :: .ref msl :: .ref mco :: .ref mhe :: .ref mso :: .ref msi :: .ref msh :: .ref mce :: .ref mca :: .ref mwo :: .ref mnu :: .ref mte :: .int 0 :: .int 0 :: .int 0 :: .int 0 :: .int 0 :: .ref mwa :: .ref mke :: .ref mma :: .ref mth :: .ref mtr :: .int 0 :: .int 0 :: []))) :: (mrf, .inl (cI, 8, .inl (fun _ => 0))) :: (mki, .inl (cI, 8, .inl (fun _ => 0))) :: (mpa, .inl (cI, 8, .inl (fun _ => 0))) :: (mta, .inl (cI, 8, .inl (fun _ => 0))) :: (mla, .inl (cI, 40, .inl (fun _ => 0))) :: (msl, .inl (cI, 40, .inl (fun _ => 0))) :: (mco, .inl (cI, 3, .inl (zL3 5 10 50))) :: (mhe, .inl (cI, 8, .inl (fun _ => 0))) :: (mso, .inl (cI, 8, .inl (fun _ => 0))) :: (msi, .inl (cI, 8, .inl (fun _ => 0))) :: (msh, .inl (cI, 8, .inl (fun _ => 0))) :: (mce, .inl (cJ, 1280, .inr (.inl (fun _ => 0)))) :: (mca, .inl (cJ, 160, .inr (.inl (fun _ => 0)))) :: (mwo, .inl (cI, 64, .inl fw_)) :: (mnu, .inl (cI, 10, .inl fn_)) :: (mte, .inl (cI, 3, .inl (fun _ => 0))) :: (mwa, .inl (cI, 130, .inl (fun _ => 0))) :: (mke, .inl (cI, 130, .inl (fun _ => 0))) :: (mma, .inl (cI, 3, .inl (fun _ => 0))) :: (mth, .inl (cI, 3, .inl (fun _ => 0))) :: (mtr, .inl (cI, 20, .inl (fun _ => 0))) :: []) := hD
  refine lv_aload_n hx hb dL_law_927 rfl (lv_at hl 2 rfl) ?_
  refine lv_aload_n hx hb dL_law_928 rfl (lv_at hl 3 rfl) ?_
  refine lv_iload_n hx hb dL_law_929 rfl (lv_at hl 0 rfl) ?_
  refine lv_iconst (v := 1) hx hb dL_law_930 (by decide) ?_
  refine lv_iadd hx hb dL_law_931 ?_
  refine lv_topi (fun y_1 ey_1 => ?_)
  obtain rfl : y_1 = 1 := ey_1.trans (by decide)
  refine va_sld hx hb hX hbl hbA hS (zf_in (by decide) (by decide)) dL_law_932 ?_
  refine lv_topi (fun a_3 ea_3 => ?_)
  skip
  refine zw_V (As := [.int a_3]) (rest := []) (wr := ((m0, .inr (8, (.int 0 :: .int 20 :: .int 0 :: .int 0 :: .int 0 :: .int 60 :: .int 0 :: .int 3 :: .int 1 :: .int (-1) :: .ref mrf :: .ref mki :: .ref mpa :: .ref mta :: .ref mla :: .ref msl :: .ref mco :: .ref mhe :: .ref mso :: .ref msi :: .ref msh :: .ref mce :: .ref mca :: .ref mwo :: .ref mnu :: .ref mte :: .int 0 :: .int 0 :: .int 0 :: .int 0 :: .int 0 :: .ref mwa :: .ref mke :: .ref mma :: .ref mth :: .ref mtr :: .int 0 :: .int 0 :: []))) :: (mrf, .inl (cI, 8, .inl (fun _ => 0))) :: (mki, .inl (cI, 8, .inl (fun _ => 0))) :: (mpa, .inl (cI, 8, .inl (fun _ => 0))) :: (mta, .inl (cI, 8, .inl (fun _ => 0))) :: (mla, .inl (cI, 40, .inl (fun _ => 0))) :: (msl, .inl (cI, 40, .inl (fun _ => 0))) :: (mco, .inl (cI, 3, .inl (zL3 5 10 50))) :: (mhe, .inl (cI, 8, .inl (fun _ => 0))) :: (mso, .inl (cI, 8, .inl (fun _ => 0))) :: (msi, .inl (cI, 8, .inl (fun _ => 0))) :: (msh, .inl (cI, 8, .inl (fun _ => 0))) :: (mce, .inl (cJ, 1280, .inr (.inl (fun _ => 0)))) :: (mca, .inl (cJ, 160, .inr (.inl (fun _ => 0)))) :: (mwo, .inl (cI, 64, .inl fw_)) :: (mnu, .inl (cI, 10, .inl fn_)) :: (mte, .inl (cI, 3, .inl (fun _ => 0))) :: (mwa, .inl (cI, 130, .inl (fun _ => 0))) :: (mke, .inl (cI, 130, .inl (fun _ => 0))) :: (mma, .inl (cI, 3, .inl (fun _ => 0))) :: (mth, .inl (cI, 3, .inl (fun _ => 0))) :: (mtr, .inl (cI, 20, .inl (fun _ => 0))) :: [])) ⟨hx, hb, hml, hown, hts⟩ (c_best l D cI cJ cZ cP cS x0 xs j0 k0 w0 rd mv xr sh el jp jc z0 0 0 (a_3)  H.size) (cwV 1 hts gq_103 rfl rfl rfl (by decide +kernel) ⟨Nat.le_of_ble_eq_true rfl, Nat.le_of_ble_eq_true rfl⟩) hK hN (hZ.kept hS) hP hD hS hA [0, 24, 1, 25, 27, 29, 31, 33, 35, 37, 39, 2] [41, 42, 43, 44, 45, 46, 47, 48, 49, 50, 51, 52, 53, 54, 55, 56, 57, 58, 59, 60, 61, 62] rfl rfl (by decide) (by decide) (by decide) (va_recv hK hP (ci := 7) (q0 := 0) rfl rfl) rfl hl.1 rfl (Nat.le_of_ble_eq_true rfl) dL_law_933 ⟨Nat.le_of_ble_eq_true rfl, Nat.le_of_ble_eq_true rfl⟩ (fun r_4 u_5 H locs hr_4 hP hD hS => ?_)
  replace hP : va_P D vwCl ((m0, .inr (8, (.int 0 :: .int 20 :: .int 0 :: .int 0 :: .int 0 :: .int 60 :: .int 0 :: .int 3 :: .int 1 :: .int (-1) :: .ref mrf :: .ref mki :: .ref mpa :: .ref mta :: .ref mla :: .ref msl :: .ref mco :: .ref mhe :: .ref mso :: .ref msi :: .ref msh :: .ref mce :: .ref mca :: .ref mwo :: .ref mnu :: .ref mte :: .int 0 :: .int 0 :: .int 0 :: .int 0 :: .int 0 :: .ref mwa :: .ref mke :: .ref mma :: .ref mth :: .ref mtr :: .int 0 :: .int 0 :: []))) :: (mrf, .inl (cI, 8, .inl (fun _ => 0))) :: (mki, .inl (cI, 8, .inl (fun _ => 0))) :: (mpa, .inl (cI, 8, .inl (fun _ => 0))) :: (mta, .inl (cI, 8, .inl (fun _ => 0))) :: (mla, .inl (cI, 40, .inl (fun _ => 0))) :: (msl, .inl (cI, 40, .inl (fun _ => 0))) :: (mco, .inl (cI, 3, .inl (zL3 5 10 50))) :: (mhe, .inl (cI, 8, .inl (fun _ => 0))) :: (mso, .inl (cI, 8, .inl (fun _ => 0))) :: (msi, .inl (cI, 8, .inl (fun _ => 0))) :: (msh, .inl (cI, 8, .inl (fun _ => 0))) :: (mce, .inl (cJ, 1280, .inr (.inl (fun _ => 0)))) :: (mca, .inl (cJ, 160, .inr (.inl (fun _ => 0)))) :: (mwo, .inl (cI, 64, .inl fw_)) :: (mnu, .inl (cI, 10, .inl fn_)) :: (mte, .inl (cI, 3, .inl (fun _ => 0))) :: (mwa, .inl (cI, 130, .inl (fun _ => 0))) :: (mke, .inl (cI, 130, .inl (fun _ => 0))) :: (mma, .inl (cI, 3, .inl (fun _ => 0))) :: (mth, .inl (cI, 3, .inl (fun _ => 0))) :: (mtr, .inl (cI, 20, .inl (fun _ => 0))) :: []) H := hP
  replace hD : va_D _ ((m0, .inr (8, (.int 0 :: .int 20 :: .int 0 :: .int 0 :: .int 0 :: .int 60 :: .int 0 :: .int 3 :: .int 1 :: .int (-1) :: .ref mrf :: .ref mki :: .ref mpa :: .ref mta :: .ref mla :: .ref msl :: .ref mco :: .ref mhe :: .ref mso :: .ref msi :: .ref msh :: .ref mce :: .ref mca :: .ref mwo :: .ref mnu :: .ref mte :: .int 0 :: .int 0 :: .int 0 :: .int 0 :: .int 0 :: .ref mwa :: .ref mke :: .ref mma :: .ref mth :: .ref mtr :: .int 0 :: .int 0 :: []))) :: (mrf, .inl (cI, 8, .inl (fun _ => 0))) :: (mki, .inl (cI, 8, .inl (fun _ => 0))) :: (mpa, .inl (cI, 8, .inl (fun _ => 0))) :: (mta, .inl (cI, 8, .inl (fun _ => 0))) :: (mla, .inl (cI, 40, .inl (fun _ => 0))) :: (msl, .inl (cI, 40, .inl (fun _ => 0))) :: (mco, .inl (cI, 3, .inl (zL3 5 10 50))) :: (mhe, .inl (cI, 8, .inl (fun _ => 0))) :: (mso, .inl (cI, 8, .inl (fun _ => 0))) :: (msi, .inl (cI, 8, .inl (fun _ => 0))) :: (msh, .inl (cI, 8, .inl (fun _ => 0))) :: (mce, .inl (cJ, 1280, .inr (.inl (fun _ => 0)))) :: (mca, .inl (cJ, 160, .inr (.inl (fun _ => 0)))) :: (mwo, .inl (cI, 64, .inl fw_)) :: (mnu, .inl (cI, 10, .inl fn_)) :: (mte, .inl (cI, 3, .inl (fun _ => 0))) :: (mwa, .inl (cI, 130, .inl (fun _ => 0))) :: (mke, .inl (cI, 130, .inl (fun _ => 0))) :: (mma, .inl (cI, 3, .inl (fun _ => 0))) :: (mth, .inl (cI, 3, .inl (fun _ => 0))) :: (mtr, .inl (cI, 20, .inl (fun _ => 0))) :: []) := hD
  rcases hr_4 with ⟨rfl, g_6⟩ | ⟨rfl, g_7, g_8⟩ | ⟨rfl, g_9, g_10⟩
  · refine lv_aload_n hx hb dL_law_936 rfl (lv_at hl 1 rfl) ?_
    refine lv_aload_n hx hb dL_law_937 rfl (lv_at hl 3 rfl) ?_
    refine lv_iload_n hx hb dL_law_938 rfl (lv_at hl 0 rfl) ?_
    refine lv_iconst (v := 1) hx hb dL_law_939 (by decide) ?_
    refine lv_iadd hx hb dL_law_940 ?_
    refine lv_topi (fun y_11 ey_11 => ?_)
    obtain rfl : y_11 = 1 := ey_11.trans (by decide)
    refine va_sld hx hb hX hbl hbA hS (zf_in (by decide) (by decide)) dL_law_941 ?_
    refine lv_topi (fun y_12 ey_12 => ?_)
    obtain rfl : a_3 = y_12 := ea_3.trans ey_12.symm
    skip
    refine zw_V (As := [.int a_3]) (rest := [.int (-11)]) (wr := [(mki, .inl (cI, 8, .inl (fun _ => 0))), (mpa, .inl (cI, 8, .inl (fun _ => 0))), (mta, .inl (cI, 8, .inl (fun _ => 0))), (mla, .inl (cI, 40, .inl (fun _ => 0))), (msl, .inl (cI, 40, .inl (fun _ => 0))), (mco, .inl (cI, 3, .inl (zL3 5 10 50))), (mso, .inl (cI, 8, .inl (fun _ => 0))), (msi, .inl (cI, 8, .inl (fun _ => 0))), (msh, .inl (cI, 8, .inl (fun _ => 0))), (mce, .inl (cJ, 1280, .inr (.inl (fun _ => 0)))), (mca, .inl (cJ, 160, .inr (.inl (fun _ => 0)))), (mwo, .inl (cI, 64, .inl fw_)), (mnu, .inl (cI, 10, .inl fn_)), (mte, .inl (cI, 3, .inl (fun _ => 0))), (mwa, .inl (cI, 130, .inl (fun _ => 0))), (mke, .inl (cI, 130, .inl (fun _ => 0))), (mma, .inl (cI, 3, .inl (fun _ => 0))), (mth, .inl (cI, 3, .inl (fun _ => 0))), (mtr, .inl (cI, 20, .inl (fun _ => 0)))]) ⟨hx, hb, hml, hown, hts⟩ (c_M_best l D cI cJ cZ cP cS m0 mrf mki mpa mta mla msl mco mhe mso msi msh mce mca mwo mnu mte mwa mke mma mth mtr (a_3)  H.size) (cwV 1 hts gq_106 rfl rfl rfl (by decide +kernel) ⟨Nat.le_of_ble_eq_true rfl, Nat.le_of_ble_eq_true rfl⟩) hK hN (hZ.kept hS) hP hD hS hA [0, 1, 8] [2, 3, 4, 5, 6, 7, 9, 10, 11, 12, 13, 14, 15, 16, 17, 18, 19, 20, 21] rfl rfl (by decide) (by decide) (by decide) (va_recv hK hP (ci := 8) (q0 := 0) rfl rfl) rfl hl.1 rfl (Nat.le_of_ble_eq_true rfl) dL_law_942 ⟨Nat.le_of_ble_eq_true rfl, Nat.le_of_ble_eq_true rfl⟩ (fun r_13 u_14 H locs hr_13 hP hD hS => ?_)
    replace hP : va_P D vwCl [(mki, .inl (cI, 8, .inl (fun _ => 0))), (mpa, .inl (cI, 8, .inl (fun _ => 0))), (mta, .inl (cI, 8, .inl (fun _ => 0))), (mla, .inl (cI, 40, .inl (fun _ => 0))), (msl, .inl (cI, 40, .inl (fun _ => 0))), (mco, .inl (cI, 3, .inl (zL3 5 10 50))), (mso, .inl (cI, 8, .inl (fun _ => 0))), (msi, .inl (cI, 8, .inl (fun _ => 0))), (msh, .inl (cI, 8, .inl (fun _ => 0))), (mce, .inl (cJ, 1280, .inr (.inl (fun _ => 0)))), (mca, .inl (cJ, 160, .inr (.inl (fun _ => 0)))), (mwo, .inl (cI, 64, .inl fw_)), (mnu, .inl (cI, 10, .inl fn_)), (mte, .inl (cI, 3, .inl (fun _ => 0))), (mwa, .inl (cI, 130, .inl (fun _ => 0))), (mke, .inl (cI, 130, .inl (fun _ => 0))), (mma, .inl (cI, 3, .inl (fun _ => 0))), (mth, .inl (cI, 3, .inl (fun _ => 0))), (mtr, .inl (cI, 20, .inl (fun _ => 0)))] H := hP
    replace hD : va_D _ [(mki, .inl (cI, 8, .inl (fun _ => 0))), (mpa, .inl (cI, 8, .inl (fun _ => 0))), (mta, .inl (cI, 8, .inl (fun _ => 0))), (mla, .inl (cI, 40, .inl (fun _ => 0))), (msl, .inl (cI, 40, .inl (fun _ => 0))), (mco, .inl (cI, 3, .inl (zL3 5 10 50))), (mso, .inl (cI, 8, .inl (fun _ => 0))), (msi, .inl (cI, 8, .inl (fun _ => 0))), (msh, .inl (cI, 8, .inl (fun _ => 0))), (mce, .inl (cJ, 1280, .inr (.inl (fun _ => 0)))), (mca, .inl (cJ, 160, .inr (.inl (fun _ => 0)))), (mwo, .inl (cI, 64, .inl fw_)), (mnu, .inl (cI, 10, .inl fn_)), (mte, .inl (cI, 3, .inl (fun _ => 0))), (mwa, .inl (cI, 130, .inl (fun _ => 0))), (mke, .inl (cI, 130, .inl (fun _ => 0))), (mma, .inl (cI, 3, .inl (fun _ => 0))), (mth, .inl (cI, 3, .inl (fun _ => 0))), (mtr, .inl (cI, 20, .inl (fun _ => 0)))] := hD
    rcases hr_13 with ⟨rfl, g_15⟩ | ⟨rfl, g_16, g_17⟩ | ⟨rfl, g_18, g_19⟩
    · refine lv_icmp_eq (tgt := 1371) hx hb dL_law_945 (by decide) (fun c_20 => ?_) (fun c_20 => ?_)
      · refine lv_iinc (v := 6) (lv' := [(3, .int 6), (2, .ref m0), (1, .ref x0), (0, .ref b)]) hx hb dL_law_1371 hl (k := 0) rfl (by decide) (by decide) rfl (fun ls hl => ?_)
        refine lv_goto (tgt := 18) hx hb dL_law_1374 (by decide) ?_
        refine lv_iload_n hx hb dL_law_18 rfl (lv_at hl 0 rfl) ?_
        refine lv_aload_n hx hb dL_law_19 rfl (lv_at hl 3 rfl) ?_
        refine va_slen hx hb hX hbl hbA hS dL_law_20 ?_
        refine lv_topi (fun y_21 ey_21 => ?_)
        obtain rfl : y_21 = 6 := ey_21.trans (by decide)
        refine lv_bipush (v := 6) hx hb dL_law_21 (by decide) ?_
        refine lv_isub hx hb dL_law_23 ?_
        refine lv_topi (fun y_22 ey_22 => ?_)
        obtain rfl : y_22 = 0 := ey_22.trans (by decide)
        refine lv_icmp_gt (tgt := 1377) hx hb dL_law_24 (by decide) (fun c_23 => ?_) (fun c_23 => ?_)
        · refine lv_iconst (v := 1) hx hb dL_law_1377 (by decide) ?_
          refine va_forget (fun q hq => hS.2.2 q hq) ?_
          refine W.widen (k := 600000) (n := 7302250) (Nat.le_of_ble_eq_true rfl) (Nat.le_of_ble_eq_true rfl) ?_
          exact lw_ret hx hb hr hlocks dL_law_1378
        · exact absurd c_23 (by decide)
      · exact absurd c_20 (by decide)
    · exfalso; omega
    · exfalso; omega
  · refine lv_aload_n hx hb dL_law_936 rfl (lv_at hl 1 rfl) ?_
    refine lv_aload_n hx hb dL_law_937 rfl (lv_at hl 3 rfl) ?_
    refine lv_iload_n hx hb dL_law_938 rfl (lv_at hl 0 rfl) ?_
    refine lv_iconst (v := 1) hx hb dL_law_939 (by decide) ?_
    refine lv_iadd hx hb dL_law_940 ?_
    refine lv_topi (fun y_24 ey_24 => ?_)
    obtain rfl : y_24 = 1 := ey_24.trans (by decide)
    refine va_sld hx hb hX hbl hbA hS (zf_in (by decide) (by decide)) dL_law_941 ?_
    refine lv_topi (fun y_25 ey_25 => ?_)
    obtain rfl : a_3 = y_25 := ea_3.trans ey_25.symm
    skip
    refine zw_V (As := [.int a_3]) (rest := [.int (-11)]) (wr := [(mki, .inl (cI, 8, .inl (fun _ => 0))), (mpa, .inl (cI, 8, .inl (fun _ => 0))), (mta, .inl (cI, 8, .inl (fun _ => 0))), (mla, .inl (cI, 40, .inl (fun _ => 0))), (msl, .inl (cI, 40, .inl (fun _ => 0))), (mco, .inl (cI, 3, .inl (zL3 5 10 50))), (mso, .inl (cI, 8, .inl (fun _ => 0))), (msi, .inl (cI, 8, .inl (fun _ => 0))), (msh, .inl (cI, 8, .inl (fun _ => 0))), (mce, .inl (cJ, 1280, .inr (.inl (fun _ => 0)))), (mca, .inl (cJ, 160, .inr (.inl (fun _ => 0)))), (mwo, .inl (cI, 64, .inl fw_)), (mnu, .inl (cI, 10, .inl fn_)), (mte, .inl (cI, 3, .inl (fun _ => 0))), (mwa, .inl (cI, 130, .inl (fun _ => 0))), (mke, .inl (cI, 130, .inl (fun _ => 0))), (mma, .inl (cI, 3, .inl (fun _ => 0))), (mth, .inl (cI, 3, .inl (fun _ => 0))), (mtr, .inl (cI, 20, .inl (fun _ => 0)))]) ⟨hx, hb, hml, hown, hts⟩ (c_M_best l D cI cJ cZ cP cS m0 mrf mki mpa mta mla msl mco mhe mso msi msh mce mca mwo mnu mte mwa mke mma mth mtr (a_3)  H.size) (cwV 1 hts gq_106 rfl rfl rfl (by decide +kernel) ⟨Nat.le_of_ble_eq_true rfl, Nat.le_of_ble_eq_true rfl⟩) hK hN (hZ.kept hS) hP hD hS hA [0, 1, 8] [2, 3, 4, 5, 6, 7, 9, 10, 11, 12, 13, 14, 15, 16, 17, 18, 19, 20, 21] rfl rfl (by decide) (by decide) (by decide) (va_recv hK hP (ci := 8) (q0 := 0) rfl rfl) rfl hl.1 rfl (Nat.le_of_ble_eq_true rfl) dL_law_942 ⟨Nat.le_of_ble_eq_true rfl, Nat.le_of_ble_eq_true rfl⟩ (fun r_26 u_27 H locs hr_26 hP hD hS => ?_)
    replace hP : va_P D vwCl [(mki, .inl (cI, 8, .inl (fun _ => 0))), (mpa, .inl (cI, 8, .inl (fun _ => 0))), (mta, .inl (cI, 8, .inl (fun _ => 0))), (mla, .inl (cI, 40, .inl (fun _ => 0))), (msl, .inl (cI, 40, .inl (fun _ => 0))), (mco, .inl (cI, 3, .inl (zL3 5 10 50))), (mso, .inl (cI, 8, .inl (fun _ => 0))), (msi, .inl (cI, 8, .inl (fun _ => 0))), (msh, .inl (cI, 8, .inl (fun _ => 0))), (mce, .inl (cJ, 1280, .inr (.inl (fun _ => 0)))), (mca, .inl (cJ, 160, .inr (.inl (fun _ => 0)))), (mwo, .inl (cI, 64, .inl fw_)), (mnu, .inl (cI, 10, .inl fn_)), (mte, .inl (cI, 3, .inl (fun _ => 0))), (mwa, .inl (cI, 130, .inl (fun _ => 0))), (mke, .inl (cI, 130, .inl (fun _ => 0))), (mma, .inl (cI, 3, .inl (fun _ => 0))), (mth, .inl (cI, 3, .inl (fun _ => 0))), (mtr, .inl (cI, 20, .inl (fun _ => 0)))] H := hP
    replace hD : va_D _ [(mki, .inl (cI, 8, .inl (fun _ => 0))), (mpa, .inl (cI, 8, .inl (fun _ => 0))), (mta, .inl (cI, 8, .inl (fun _ => 0))), (mla, .inl (cI, 40, .inl (fun _ => 0))), (msl, .inl (cI, 40, .inl (fun _ => 0))), (mco, .inl (cI, 3, .inl (zL3 5 10 50))), (mso, .inl (cI, 8, .inl (fun _ => 0))), (msi, .inl (cI, 8, .inl (fun _ => 0))), (msh, .inl (cI, 8, .inl (fun _ => 0))), (mce, .inl (cJ, 1280, .inr (.inl (fun _ => 0)))), (mca, .inl (cJ, 160, .inr (.inl (fun _ => 0)))), (mwo, .inl (cI, 64, .inl fw_)), (mnu, .inl (cI, 10, .inl fn_)), (mte, .inl (cI, 3, .inl (fun _ => 0))), (mwa, .inl (cI, 130, .inl (fun _ => 0))), (mke, .inl (cI, 130, .inl (fun _ => 0))), (mma, .inl (cI, 3, .inl (fun _ => 0))), (mth, .inl (cI, 3, .inl (fun _ => 0))), (mtr, .inl (cI, 20, .inl (fun _ => 0)))] := hD
    rcases hr_26 with ⟨rfl, g_28⟩ | ⟨rfl, g_29, g_30⟩ | ⟨rfl, g_31, g_32⟩
    · exfalso; omega
    · refine lv_icmp_eq (tgt := 1371) hx hb dL_law_945 (by decide) (fun c_33 => ?_) (fun c_33 => ?_)
      · refine lv_iinc (v := 6) (lv' := [(3, .int 6), (2, .ref m0), (1, .ref x0), (0, .ref b)]) hx hb dL_law_1371 hl (k := 0) rfl (by decide) (by decide) rfl (fun ls hl => ?_)
        refine lv_goto (tgt := 18) hx hb dL_law_1374 (by decide) ?_
        refine lv_iload_n hx hb dL_law_18 rfl (lv_at hl 0 rfl) ?_
        refine lv_aload_n hx hb dL_law_19 rfl (lv_at hl 3 rfl) ?_
        refine va_slen hx hb hX hbl hbA hS dL_law_20 ?_
        refine lv_topi (fun y_34 ey_34 => ?_)
        obtain rfl : y_34 = 6 := ey_34.trans (by decide)
        refine lv_bipush (v := 6) hx hb dL_law_21 (by decide) ?_
        refine lv_isub hx hb dL_law_23 ?_
        refine lv_topi (fun y_35 ey_35 => ?_)
        obtain rfl : y_35 = 0 := ey_35.trans (by decide)
        refine lv_icmp_gt (tgt := 1377) hx hb dL_law_24 (by decide) (fun c_36 => ?_) (fun c_36 => ?_)
        · refine lv_iconst (v := 1) hx hb dL_law_1377 (by decide) ?_
          refine va_forget (fun q hq => hS.2.2 q hq) ?_
          refine W.widen (k := 600000) (n := 7302250) (Nat.le_of_ble_eq_true rfl) (Nat.le_of_ble_eq_true rfl) ?_
          exact lw_ret hx hb hr hlocks dL_law_1378
        · exact absurd c_36 (by decide)
      · exact absurd c_33 (by decide)
    · exfalso; omega
  · refine lv_aload_n hx hb dL_law_936 rfl (lv_at hl 1 rfl) ?_
    refine lv_aload_n hx hb dL_law_937 rfl (lv_at hl 3 rfl) ?_
    refine lv_iload_n hx hb dL_law_938 rfl (lv_at hl 0 rfl) ?_
    refine lv_iconst (v := 1) hx hb dL_law_939 (by decide) ?_
    refine lv_iadd hx hb dL_law_940 ?_
    refine lv_topi (fun y_37 ey_37 => ?_)
    obtain rfl : y_37 = 1 := ey_37.trans (by decide)
    refine va_sld hx hb hX hbl hbA hS (zf_in (by decide) (by decide)) dL_law_941 ?_
    refine lv_topi (fun y_38 ey_38 => ?_)
    obtain rfl : a_3 = y_38 := ea_3.trans ey_38.symm
    skip
    refine zw_V (As := [.int a_3]) (rest := [.int (-13)]) (wr := [(mki, .inl (cI, 8, .inl (fun _ => 0))), (mpa, .inl (cI, 8, .inl (fun _ => 0))), (mta, .inl (cI, 8, .inl (fun _ => 0))), (mla, .inl (cI, 40, .inl (fun _ => 0))), (msl, .inl (cI, 40, .inl (fun _ => 0))), (mco, .inl (cI, 3, .inl (zL3 5 10 50))), (mso, .inl (cI, 8, .inl (fun _ => 0))), (msi, .inl (cI, 8, .inl (fun _ => 0))), (msh, .inl (cI, 8, .inl (fun _ => 0))), (mce, .inl (cJ, 1280, .inr (.inl (fun _ => 0)))), (mca, .inl (cJ, 160, .inr (.inl (fun _ => 0)))), (mwo, .inl (cI, 64, .inl fw_)), (mnu, .inl (cI, 10, .inl fn_)), (mte, .inl (cI, 3, .inl (fun _ => 0))), (mwa, .inl (cI, 130, .inl (fun _ => 0))), (mke, .inl (cI, 130, .inl (fun _ => 0))), (mma, .inl (cI, 3, .inl (fun _ => 0))), (mth, .inl (cI, 3, .inl (fun _ => 0))), (mtr, .inl (cI, 20, .inl (fun _ => 0)))]) ⟨hx, hb, hml, hown, hts⟩ (c_M_best l D cI cJ cZ cP cS m0 mrf mki mpa mta mla msl mco mhe mso msi msh mce mca mwo mnu mte mwa mke mma mth mtr (a_3)  H.size) (cwV 1 hts gq_106 rfl rfl rfl (by decide +kernel) ⟨Nat.le_of_ble_eq_true rfl, Nat.le_of_ble_eq_true rfl⟩) hK hN (hZ.kept hS) hP hD hS hA [0, 1, 8] [2, 3, 4, 5, 6, 7, 9, 10, 11, 12, 13, 14, 15, 16, 17, 18, 19, 20, 21] rfl rfl (by decide) (by decide) (by decide) (va_recv hK hP (ci := 8) (q0 := 0) rfl rfl) rfl hl.1 rfl (Nat.le_of_ble_eq_true rfl) dL_law_942 ⟨Nat.le_of_ble_eq_true rfl, Nat.le_of_ble_eq_true rfl⟩ (fun r_39 u_40 H locs hr_39 hP hD hS => ?_)
    replace hP : va_P D vwCl [(mki, .inl (cI, 8, .inl (fun _ => 0))), (mpa, .inl (cI, 8, .inl (fun _ => 0))), (mta, .inl (cI, 8, .inl (fun _ => 0))), (mla, .inl (cI, 40, .inl (fun _ => 0))), (msl, .inl (cI, 40, .inl (fun _ => 0))), (mco, .inl (cI, 3, .inl (zL3 5 10 50))), (mso, .inl (cI, 8, .inl (fun _ => 0))), (msi, .inl (cI, 8, .inl (fun _ => 0))), (msh, .inl (cI, 8, .inl (fun _ => 0))), (mce, .inl (cJ, 1280, .inr (.inl (fun _ => 0)))), (mca, .inl (cJ, 160, .inr (.inl (fun _ => 0)))), (mwo, .inl (cI, 64, .inl fw_)), (mnu, .inl (cI, 10, .inl fn_)), (mte, .inl (cI, 3, .inl (fun _ => 0))), (mwa, .inl (cI, 130, .inl (fun _ => 0))), (mke, .inl (cI, 130, .inl (fun _ => 0))), (mma, .inl (cI, 3, .inl (fun _ => 0))), (mth, .inl (cI, 3, .inl (fun _ => 0))), (mtr, .inl (cI, 20, .inl (fun _ => 0)))] H := hP
    replace hD : va_D _ [(mki, .inl (cI, 8, .inl (fun _ => 0))), (mpa, .inl (cI, 8, .inl (fun _ => 0))), (mta, .inl (cI, 8, .inl (fun _ => 0))), (mla, .inl (cI, 40, .inl (fun _ => 0))), (msl, .inl (cI, 40, .inl (fun _ => 0))), (mco, .inl (cI, 3, .inl (zL3 5 10 50))), (mso, .inl (cI, 8, .inl (fun _ => 0))), (msi, .inl (cI, 8, .inl (fun _ => 0))), (msh, .inl (cI, 8, .inl (fun _ => 0))), (mce, .inl (cJ, 1280, .inr (.inl (fun _ => 0)))), (mca, .inl (cJ, 160, .inr (.inl (fun _ => 0)))), (mwo, .inl (cI, 64, .inl fw_)), (mnu, .inl (cI, 10, .inl fn_)), (mte, .inl (cI, 3, .inl (fun _ => 0))), (mwa, .inl (cI, 130, .inl (fun _ => 0))), (mke, .inl (cI, 130, .inl (fun _ => 0))), (mma, .inl (cI, 3, .inl (fun _ => 0))), (mth, .inl (cI, 3, .inl (fun _ => 0))), (mtr, .inl (cI, 20, .inl (fun _ => 0)))] := hD
    rcases hr_39 with ⟨rfl, g_41⟩ | ⟨rfl, g_42, g_43⟩ | ⟨rfl, g_44, g_45⟩
    · exfalso; omega
    · exfalso; omega
    · refine lv_icmp_eq (tgt := 1371) hx hb dL_law_945 (by decide) (fun c_46 => ?_) (fun c_46 => ?_)
      · refine lv_iinc (v := 6) (lv' := [(3, .int 6), (2, .ref m0), (1, .ref x0), (0, .ref b)]) hx hb dL_law_1371 hl (k := 0) rfl (by decide) (by decide) rfl (fun ls hl => ?_)
        refine lv_goto (tgt := 18) hx hb dL_law_1374 (by decide) ?_
        refine lv_iload_n hx hb dL_law_18 rfl (lv_at hl 0 rfl) ?_
        refine lv_aload_n hx hb dL_law_19 rfl (lv_at hl 3 rfl) ?_
        refine va_slen hx hb hX hbl hbA hS dL_law_20 ?_
        refine lv_topi (fun y_47 ey_47 => ?_)
        obtain rfl : y_47 = 6 := ey_47.trans (by decide)
        refine lv_bipush (v := 6) hx hb dL_law_21 (by decide) ?_
        refine lv_isub hx hb dL_law_23 ?_
        refine lv_topi (fun y_48 ey_48 => ?_)
        obtain rfl : y_48 = 0 := ey_48.trans (by decide)
        refine lv_icmp_gt (tgt := 1377) hx hb dL_law_24 (by decide) (fun c_49 => ?_) (fun c_49 => ?_)
        · refine lv_iconst (v := 1) hx hb dL_law_1377 (by decide) ?_
          refine va_forget (fun q hq => hS.2.2 q hq) ?_
          refine W.widen (k := 600000) (n := 7302250) (Nat.le_of_ble_eq_true rfl) (Nat.le_of_ble_eq_true rfl) ?_
          exact lw_ret hx hb hr hlocks dL_law_1378
        · exact absurd c_49 (by decide)
      · exact absurd c_46 (by decide)
set_option maxHeartbeats 8000000 in
set_option maxRecDepth 100000 in
theorem law_case_21 {p : Program} {l : Launch} {e : Env} {s : State} {m : MethodId} {below : List Frame} {meth : Method} {c : Code} {D : va_G} {cI cJ cZ cP cS : ClassId} {b : Nat} {xs_ : Nat → Int32} (x0 xs j0 k0 w0 rd mv xr z0 jp jc zl zs kz kp kc kzl kzs wk wl wc wp ri rl mb m0 mrf mki mpa mta mla msl mco mhe mso msi msh mce mca mwo mnu mte mwa mke mma mth mtr : Nat) (sh el : Nat → Nat) (fw_ fn_ : Nat → Int32) (C0 : lw_At p s m meth c b 6 xs_) (hK : va_K D vwCl (zKT cI cJ cZ cP cS) s) (hN : zN s) (hZ : zSt (fun q : Nat => s.heap.size ≤ q) s s.heap) (H : Heap) (locs : List Loc) (hP : va_P D vwCl (zLW cI cJ cZ cP cS x0 xs j0 k0 w0 rd mv xr z0 jp jc zl zs kz kp kc kzl kzs wk wl wc wp ri rl mb m0 mrf mki mpa mta mla msl mco mhe mso msi msh mce mca mwo mnu mte mwa mke mma mth mtr sh el fw_ fn_) H) (hD : va_D (fun q : Nat => s.heap.size ≤ q) (zLW cI cJ cZ cP cS x0 xs j0 k0 w0 rd mv xr z0 jp jc zl zs kz kp kc kzl kzs wk wl wc wp ri rl mb m0 mrf mki mpa mta mla msl mco mhe mso msi msh mce mca mwo mnu mte mwa mke mma mth mtr sh el fw_ fn_)) (hS : va_S (fun q : Nat => s.heap.size ≤ q) s.heap H locs) (ls : Array Slot) (hl : lv_has ls 4 [(3, .int 0), (2, .ref m0), (1, .ref x0), (0, .ref b)]) : W p l e room_1 s m #[Value.ref b] below meth c H locs 100 10000 (lw_Z below #[Value.ref b] s) (F0 m 950 ls []) := by
  obtain ⟨hx, hb, hr, hml, hown0, hts, hX, hbl, hlocks, hgv⟩ := id C0
  have hown : s.vm.findClass RL = some m.cls := hown0
  have hA : ∀ q : Nat, s.heap.size ≤ q → (fun q : Nat => s.heap.size ≤ q) q := fun _ h => h
  have hbA : ¬ (fun q : Nat => s.heap.size ≤ q) b := Nat.not_le.mpr hbl
  replace hP : va_P D vwCl ((x0, .inr (7, [.ref xs, .ref j0, .ref k0, .ref w0, .ref rd, .ref mv, .ref xr, .int 0, .int (-1)])) :: (xs, .inl (cS, 8, .inr (.inr (.inr (.inr (zS sh)))))) :: (j0, .inr (0, [.ref z0, .ref jp, .ref jc, .int 0, .int 0, .int 0, .int 60, .int 0, .int 1])) :: (z0, .inr (6, [.ref zl, .ref zs, .int 20, .int 0, .int 3])) :: (zl, .inl (cZ, 40, .inl (fun _ => 0))) :: (zs, .inl (cI, 40, .inl (fun _ => 0))) :: (jp, .inl (cP, 8, .inr (.inr (.inr (.inr (fun _ => none)))))) :: (jc, .inl (cI, 3, .inl (zL3 5 10 50))) :: (k0, .inr (0, [.ref kz, .ref kp, .ref kc, .int 0, .int 0, .int 0, .int 60, .int 0, .int 1])) :: (kz, .inr (6, [.ref kzl, .ref kzs, .int 20, .int 0, .int 3])) :: (kzl, .inl (cZ, 40, .inl (fun _ => 0))) :: (kzs, .inl (cI, 40, .inl (fun _ => 0))) :: (kp, .inl (cP, 8, .inr (.inr (.inr (.inr (fun _ => none)))))) :: (kc, .inl (cI, 3, .inl (zL3 5 10 50))) :: (w0, .inr (5, [.ref wk, .ref wl, .ref wc, .ref wp, .int 0, .int 0, .int 0])) :: (wk, .inl (cI, 125, .inl (fun _ => 0))) :: (wl, .inl (cI, 125, .inl (fun _ => 0))) :: (wc, .inl (cI, 3, .inl (fun _ => 0))) :: (wp, .inl (cP, 8, .inr (.inr (.inr (.inr (fun _ => none)))))) :: (rd, .inr (3, [.ref ri, .ref rl, .int 0, .int 0, .int 0, .int (-1), .int 0, .int 0])) :: (ri, .inl (cI, 132, .inl (fun _ => 0))) :: (rl, .inl (cI, 160, .inl (fun _ => 0))) :: (mv, .inr (1, [.ref mb, .int 0, .int 0, .int 0, .int 0])) :: (mb, .inl (cI, 20, .inl (fun _ => 0))) :: (xr, .inl (cI, 8, .inl (fun _ => 0))) :: ((sh 0), .inr (4, [.ref (el 0), .int (-1), .int 0])) :: ((el 0), .inl (cJ, 160, .inr (.inl (fun _ => 0)))) :: ((sh 1), .inr (4, [.ref (el 1), .int (-1), .int 0])) :: ((el 1), .inl (cJ, 160, .inr (.inl (fun _ => 0)))) :: ((sh 2), .inr (4, [.ref (el 2), .int (-1), .int 0])) :: ((el 2), .inl (cJ, 160, .inr (.inl (fun _ => 0)))) :: ((sh 3), .inr (4, [.ref (el 3), .int (-1), .int 0])) :: ((el 3), .inl (cJ, 160, .inr (.inl (fun _ => 0)))) :: ((sh 4), .inr (4, [.ref (el 4), .int (-1), .int 0])) :: ((el 4), .inl (cJ, 160, .inr (.inl (fun _ => 0)))) :: ((sh 5), .inr (4, [.ref (el 5), .int (-1), .int 0])) :: ((el 5), .inl (cJ, 160, .inr (.inl (fun _ => 0)))) :: ((sh 6), .inr (4, [.ref (el 6), .int (-1), .int 0])) :: ((el 6), .inl (cJ, 160, .inr (.inl (fun _ => 0)))) :: ((sh 7), .inr (4, [.ref (el 7), .int (-1), .int 0])) :: ((el 7), .inl (cJ, 160, .inr (.inl (fun _ => 0)))) :: (m0, .inr (8, (.int 0 :: .int 20 :: .int 0 :: .int 0 :: .int 0 :: .int 60 :: .int 0 :: .int 3 :: .int 1 :: .int (-1) :: .ref mrf :: .ref mki :: .ref mpa :: .ref mta :: .ref mla :: .ref msl :: .ref mco :: .ref mhe :: .ref mso :: .ref msi :: .ref msh :: .ref mce :: .ref mca :: .ref mwo :: .ref mnu :: .ref mte :: .int 0 :: .int 0 :: .int 0 :: .int 0 :: .int 0 :: .ref mwa :: .ref mke :: .ref mma :: .ref mth :: .ref mtr :: .int 0 :: .int 0 :: []))) :: (mrf, .inl (cI, 8, .inl (fun _ => 0))) :: (mki, .inl (cI, 8, .inl (fun _ => 0))) :: (mpa, .inl (cI, 8, .inl (fun _ => 0))) :: (mta, .inl (cI, 8, .inl (fun _ => 0))) :: (mla, .inl (cI, 40, .inl (fun _ => 0))) :: (msl, .inl (cI, 40, .inl (fun _ => 0))) :: (mco, .inl (cI, 3, .inl (zL3 5 10 50))) :: (mhe, .inl (cI, 8, .inl (fun _ => 0))) :: (mso, .inl (cI, 8, .inl (fun _ => 0))) :: (msi, .inl (cI, 8, .inl (fun _ => 0))) :: (msh, .inl (cI, 8, .inl (fun _ => 0))) :: (mce, .inl (cJ, 1280, .inr (.inl (fun _ => 0)))) :: (mca, .inl (cJ, 160, .inr (.inl (fun _ => 0)))) :: (mwo, .inl (cI, 64, .inl fw_)) :: (mnu, .inl (cI, 10, .inl fn_)) :: (mte, .inl (cI, 3, .inl (fun _ => 0))) :: (mwa, .inl (cI, 130, .inl (fun _ => 0))) :: (mke, .inl (cI, 130, .inl (fun _ => 0))) :: (mma, .inl (cI, 3, .inl (fun _ => 0))) :: (mth, .inl (cI, 3, .inl (fun _ => 0))) :: (mtr, .inl (cI, 20, .inl (fun _ => 0))) :: []) H := hP
  replace hD : va_D _ ((x0, .inr (7, [.ref xs, .ref j0, .ref k0, .ref w0, .ref rd, .ref mv, .ref xr, .int 0, .int (-1)])) :: (xs, .inl (cS, 8, .inr (.inr (.inr (.inr (zS sh)))))) :: (j0, .inr (0, [.ref z0, .ref jp, .ref jc, .int 0, .int 0, .int 0, .int 60, .int 0, .int 1])) :: (z0, .inr (6, [.ref zl, .ref zs, .int 20, .int 0, .int 3])) :: (zl, .inl (cZ, 40, .inl (fun _ => 0))) :: (zs, .inl (cI, 40, .inl (fun _ => 0))) :: (jp, .inl (cP, 8, .inr (.inr (.inr (.inr (fun _ => none)))))) :: (jc, .inl (cI, 3, .inl (zL3 5 10 50))) :: (k0, .inr (0, [.ref kz, .ref kp, .ref kc, .int 0, .int 0, .int 0, .int 60, .int 0, .int 1])) :: (kz, .inr (6, [.ref kzl, .ref kzs, .int 20, .int 0, .int 3])) :: (kzl, .inl (cZ, 40, .inl (fun _ => 0))) :: (kzs, .inl (cI, 40, .inl (fun _ => 0))) :: (kp, .inl (cP, 8, .inr (.inr (.inr (.inr (fun _ => none)))))) :: (kc, .inl (cI, 3, .inl (zL3 5 10 50))) :: (w0, .inr (5, [.ref wk, .ref wl, .ref wc, .ref wp, .int 0, .int 0, .int 0])) :: (wk, .inl (cI, 125, .inl (fun _ => 0))) :: (wl, .inl (cI, 125, .inl (fun _ => 0))) :: (wc, .inl (cI, 3, .inl (fun _ => 0))) :: (wp, .inl (cP, 8, .inr (.inr (.inr (.inr (fun _ => none)))))) :: (rd, .inr (3, [.ref ri, .ref rl, .int 0, .int 0, .int 0, .int (-1), .int 0, .int 0])) :: (ri, .inl (cI, 132, .inl (fun _ => 0))) :: (rl, .inl (cI, 160, .inl (fun _ => 0))) :: (mv, .inr (1, [.ref mb, .int 0, .int 0, .int 0, .int 0])) :: (mb, .inl (cI, 20, .inl (fun _ => 0))) :: (xr, .inl (cI, 8, .inl (fun _ => 0))) :: ((sh 0), .inr (4, [.ref (el 0), .int (-1), .int 0])) :: ((el 0), .inl (cJ, 160, .inr (.inl (fun _ => 0)))) :: ((sh 1), .inr (4, [.ref (el 1), .int (-1), .int 0])) :: ((el 1), .inl (cJ, 160, .inr (.inl (fun _ => 0)))) :: ((sh 2), .inr (4, [.ref (el 2), .int (-1), .int 0])) :: ((el 2), .inl (cJ, 160, .inr (.inl (fun _ => 0)))) :: ((sh 3), .inr (4, [.ref (el 3), .int (-1), .int 0])) :: ((el 3), .inl (cJ, 160, .inr (.inl (fun _ => 0)))) :: ((sh 4), .inr (4, [.ref (el 4), .int (-1), .int 0])) :: ((el 4), .inl (cJ, 160, .inr (.inl (fun _ => 0)))) :: ((sh 5), .inr (4, [.ref (el 5), .int (-1), .int 0])) :: ((el 5), .inl (cJ, 160, .inr (.inl (fun _ => 0)))) :: ((sh 6), .inr (4, [.ref (el 6), .int (-1), .int 0])) :: ((el 6), .inl (cJ, 160, .inr (.inl (fun _ => 0)))) :: ((sh 7), .inr (4, [.ref (el 7), .int (-1), .int 0])) :: ((el 7), .inl (cJ, 160, .inr (.inl (fun _ => 0)))) :: (m0, .inr (8, (.int 0 :: .int 20 :: .int 0 :: .int 0 :: .int 0 :: .int 60 :: .int 0 :: .int 3 :: .int 1 :: .int (-1) :: .ref mrf :: .ref mki :: .ref mpa :: .ref mta :: .ref mla :: .ref msl :: .ref mco :: .ref mhe :: .ref mso :: .ref msi :: .ref msh :: .ref mce :: .ref mca :: .ref mwo :: .ref mnu :: .ref mte :: .int 0 :: .int 0 :: .int 0 :: .int 0 :: .int 0 :: .ref mwa :: .ref mke :: .ref mma :: .ref mth :: .ref mtr :: .int 0 :: .int 0 :: []))) :: (mrf, .inl (cI, 8, .inl (fun _ => 0))) :: (mki, .inl (cI, 8, .inl (fun _ => 0))) :: (mpa, .inl (cI, 8, .inl (fun _ => 0))) :: (mta, .inl (cI, 8, .inl (fun _ => 0))) :: (mla, .inl (cI, 40, .inl (fun _ => 0))) :: (msl, .inl (cI, 40, .inl (fun _ => 0))) :: (mco, .inl (cI, 3, .inl (zL3 5 10 50))) :: (mhe, .inl (cI, 8, .inl (fun _ => 0))) :: (mso, .inl (cI, 8, .inl (fun _ => 0))) :: (msi, .inl (cI, 8, .inl (fun _ => 0))) :: (msh, .inl (cI, 8, .inl (fun _ => 0))) :: (mce, .inl (cJ, 1280, .inr (.inl (fun _ => 0)))) :: (mca, .inl (cJ, 160, .inr (.inl (fun _ => 0)))) :: (mwo, .inl (cI, 64, .inl fw_)) :: (mnu, .inl (cI, 10, .inl fn_)) :: (mte, .inl (cI, 3, .inl (fun _ => 0))) :: (mwa, .inl (cI, 130, .inl (fun _ => 0))) :: (mke, .inl (cI, 130, .inl (fun _ => 0))) :: (mma, .inl (cI, 3, .inl (fun _ => 0))) :: (mth, .inl (cI, 3, .inl (fun _ => 0))) :: (mtr, .inl (cI, 20, .inl (fun _ => 0))) :: []) := hD
  refine lv_aload_n hx hb dL_law_950 rfl (lv_at hl 2 rfl) ?_
  refine lv_aload_n hx hb dL_law_951 rfl (lv_at hl 3 rfl) ?_
  refine lv_iload_n hx hb dL_law_952 rfl (lv_at hl 0 rfl) ?_
  refine lv_iconst (v := 1) hx hb dL_law_953 (by decide) ?_
  refine lv_iadd hx hb dL_law_954 ?_
  refine lv_topi (fun y_1 ey_1 => ?_)
  obtain rfl : y_1 = 1 := ey_1.trans (by decide)
  refine va_sld hx hb hX hbl hbA hS (zf_in (by decide) (by decide)) dL_law_955 ?_
  refine lv_topi (fun a_3 ea_3 => ?_)
  refine lv_aload_n hx hb dL_law_956 rfl (lv_at hl 3 rfl) ?_
  refine lv_iload_n hx hb dL_law_957 rfl (lv_at hl 0 rfl) ?_
  refine lv_iconst (v := 2) hx hb dL_law_958 (by decide) ?_
  refine lv_iadd hx hb dL_law_959 ?_
  refine lv_topi (fun y_4 ey_4 => ?_)
  obtain rfl : y_4 = 2 := ey_4.trans (by decide)
  refine va_sld hx hb hX hbl hbA hS (zf_in (by decide) (by decide)) dL_law_960 ?_
  refine lv_topi (fun a_6 ea_6 => ?_)
  refine lv_aload_n hx hb dL_law_961 rfl (lv_at hl 3 rfl) ?_
  refine lv_iload_n hx hb dL_law_962 rfl (lv_at hl 0 rfl) ?_
  refine lv_iconst (v := 3) hx hb dL_law_963 (by decide) ?_
  refine lv_iadd hx hb dL_law_964 ?_
  refine lv_topi (fun y_7 ey_7 => ?_)
  obtain rfl : y_7 = 3 := ey_7.trans (by decide)
  refine va_sld hx hb hX hbl hbA hS (zf_in (by decide) (by decide)) dL_law_965 ?_
  refine lv_topi (fun a_9 ea_9 => ?_)
  skip
  refine zw_V (As := [.int a_3, .int a_6, .int a_9]) (rest := []) (wr := ((m0, .inr (8, (.int 0 :: .int 20 :: .int 0 :: .int 0 :: .int 0 :: .int 60 :: .int 0 :: .int 3 :: .int 1 :: .int (-1) :: .ref mrf :: .ref mki :: .ref mpa :: .ref mta :: .ref mla :: .ref msl :: .ref mco :: .ref mhe :: .ref mso :: .ref msi :: .ref msh :: .ref mce :: .ref mca :: .ref mwo :: .ref mnu :: .ref mte :: .int 0 :: .int 0 :: .int 0 :: .int 0 :: .int 0 :: .ref mwa :: .ref mke :: .ref mma :: .ref mth :: .ref mtr :: .int 0 :: .int 0 :: []))) :: (mrf, .inl (cI, 8, .inl (fun _ => 0))) :: (mki, .inl (cI, 8, .inl (fun _ => 0))) :: (mpa, .inl (cI, 8, .inl (fun _ => 0))) :: (mta, .inl (cI, 8, .inl (fun _ => 0))) :: (mla, .inl (cI, 40, .inl (fun _ => 0))) :: (msl, .inl (cI, 40, .inl (fun _ => 0))) :: (mco, .inl (cI, 3, .inl (zL3 5 10 50))) :: (mhe, .inl (cI, 8, .inl (fun _ => 0))) :: (mso, .inl (cI, 8, .inl (fun _ => 0))) :: (msi, .inl (cI, 8, .inl (fun _ => 0))) :: (msh, .inl (cI, 8, .inl (fun _ => 0))) :: (mce, .inl (cJ, 1280, .inr (.inl (fun _ => 0)))) :: (mca, .inl (cJ, 160, .inr (.inl (fun _ => 0)))) :: (mwo, .inl (cI, 64, .inl fw_)) :: (mnu, .inl (cI, 10, .inl fn_)) :: (mte, .inl (cI, 3, .inl (fun _ => 0))) :: (mwa, .inl (cI, 130, .inl (fun _ => 0))) :: (mke, .inl (cI, 130, .inl (fun _ => 0))) :: (mma, .inl (cI, 3, .inl (fun _ => 0))) :: (mth, .inl (cI, 3, .inl (fun _ => 0))) :: (mtr, .inl (cI, 20, .inl (fun _ => 0))) :: [])) ⟨hx, hb, hml, hown, hts⟩ (c_behind l D cI cJ cZ cP cS x0 xs j0 k0 w0 rd mv xr sh el jp jc z0 0 0 (a_3) (a_6) (a_9)  H.size) (cwV 3 hts gq_107 rfl rfl rfl (by decide +kernel) ⟨Nat.le_of_ble_eq_true rfl, Nat.le_of_ble_eq_true rfl⟩) hK hN (hZ.kept hS) hP hD hS hA [0, 24, 1, 25, 27, 29, 31, 33, 35, 37, 39, 2] [41, 42, 43, 44, 45, 46, 47, 48, 49, 50, 51, 52, 53, 54, 55, 56, 57, 58, 59, 60, 61, 62] rfl rfl (by decide) (by decide) (by decide) (va_recv hK hP (ci := 7) (q0 := 0) rfl rfl) rfl hl.1 rfl (Nat.le_of_ble_eq_true rfl) dL_law_966 ⟨Nat.le_of_ble_eq_true rfl, Nat.le_of_ble_eq_true rfl⟩ (fun r_10 u_11 H locs hr_10 hP hD hS => ?_)
  replace hP : va_P D vwCl ((m0, .inr (8, (.int 0 :: .int 20 :: .int 0 :: .int 0 :: .int 0 :: .int 60 :: .int 0 :: .int 3 :: .int 1 :: .int (-1) :: .ref mrf :: .ref mki :: .ref mpa :: .ref mta :: .ref mla :: .ref msl :: .ref mco :: .ref mhe :: .ref mso :: .ref msi :: .ref msh :: .ref mce :: .ref mca :: .ref mwo :: .ref mnu :: .ref mte :: .int 0 :: .int 0 :: .int 0 :: .int 0 :: .int 0 :: .ref mwa :: .ref mke :: .ref mma :: .ref mth :: .ref mtr :: .int 0 :: .int 0 :: []))) :: (mrf, .inl (cI, 8, .inl (fun _ => 0))) :: (mki, .inl (cI, 8, .inl (fun _ => 0))) :: (mpa, .inl (cI, 8, .inl (fun _ => 0))) :: (mta, .inl (cI, 8, .inl (fun _ => 0))) :: (mla, .inl (cI, 40, .inl (fun _ => 0))) :: (msl, .inl (cI, 40, .inl (fun _ => 0))) :: (mco, .inl (cI, 3, .inl (zL3 5 10 50))) :: (mhe, .inl (cI, 8, .inl (fun _ => 0))) :: (mso, .inl (cI, 8, .inl (fun _ => 0))) :: (msi, .inl (cI, 8, .inl (fun _ => 0))) :: (msh, .inl (cI, 8, .inl (fun _ => 0))) :: (mce, .inl (cJ, 1280, .inr (.inl (fun _ => 0)))) :: (mca, .inl (cJ, 160, .inr (.inl (fun _ => 0)))) :: (mwo, .inl (cI, 64, .inl fw_)) :: (mnu, .inl (cI, 10, .inl fn_)) :: (mte, .inl (cI, 3, .inl (fun _ => 0))) :: (mwa, .inl (cI, 130, .inl (fun _ => 0))) :: (mke, .inl (cI, 130, .inl (fun _ => 0))) :: (mma, .inl (cI, 3, .inl (fun _ => 0))) :: (mth, .inl (cI, 3, .inl (fun _ => 0))) :: (mtr, .inl (cI, 20, .inl (fun _ => 0))) :: []) H := hP
  replace hD : va_D _ ((m0, .inr (8, (.int 0 :: .int 20 :: .int 0 :: .int 0 :: .int 0 :: .int 60 :: .int 0 :: .int 3 :: .int 1 :: .int (-1) :: .ref mrf :: .ref mki :: .ref mpa :: .ref mta :: .ref mla :: .ref msl :: .ref mco :: .ref mhe :: .ref mso :: .ref msi :: .ref msh :: .ref mce :: .ref mca :: .ref mwo :: .ref mnu :: .ref mte :: .int 0 :: .int 0 :: .int 0 :: .int 0 :: .int 0 :: .ref mwa :: .ref mke :: .ref mma :: .ref mth :: .ref mtr :: .int 0 :: .int 0 :: []))) :: (mrf, .inl (cI, 8, .inl (fun _ => 0))) :: (mki, .inl (cI, 8, .inl (fun _ => 0))) :: (mpa, .inl (cI, 8, .inl (fun _ => 0))) :: (mta, .inl (cI, 8, .inl (fun _ => 0))) :: (mla, .inl (cI, 40, .inl (fun _ => 0))) :: (msl, .inl (cI, 40, .inl (fun _ => 0))) :: (mco, .inl (cI, 3, .inl (zL3 5 10 50))) :: (mhe, .inl (cI, 8, .inl (fun _ => 0))) :: (mso, .inl (cI, 8, .inl (fun _ => 0))) :: (msi, .inl (cI, 8, .inl (fun _ => 0))) :: (msh, .inl (cI, 8, .inl (fun _ => 0))) :: (mce, .inl (cJ, 1280, .inr (.inl (fun _ => 0)))) :: (mca, .inl (cJ, 160, .inr (.inl (fun _ => 0)))) :: (mwo, .inl (cI, 64, .inl fw_)) :: (mnu, .inl (cI, 10, .inl fn_)) :: (mte, .inl (cI, 3, .inl (fun _ => 0))) :: (mwa, .inl (cI, 130, .inl (fun _ => 0))) :: (mke, .inl (cI, 130, .inl (fun _ => 0))) :: (mma, .inl (cI, 3, .inl (fun _ => 0))) :: (mth, .inl (cI, 3, .inl (fun _ => 0))) :: (mtr, .inl (cI, 20, .inl (fun _ => 0))) :: []) := hD
  rcases hr_10 with ⟨rfl, g_12, g_13⟩ | ⟨rfl, g_14, g_15⟩ | ⟨rfl, g_16, g_17, g_18⟩ | ⟨rfl, g_19, g_20, g_21⟩ | ⟨rfl, g_22, g_23, g_24⟩ | ⟨rfl, g_25, g_26, g_27⟩
  · refine lv_aload_n hx hb dL_law_969 rfl (lv_at hl 1 rfl) ?_
    refine lv_aload_n hx hb dL_law_970 rfl (lv_at hl 3 rfl) ?_
    refine lv_iload_n hx hb dL_law_971 rfl (lv_at hl 0 rfl) ?_
    refine lv_iconst (v := 1) hx hb dL_law_972 (by decide) ?_
    refine lv_iadd hx hb dL_law_973 ?_
    refine lv_topi (fun y_28 ey_28 => ?_)
    obtain rfl : y_28 = 1 := ey_28.trans (by decide)
    refine va_sld hx hb hX hbl hbA hS (zf_in (by decide) (by decide)) dL_law_974 ?_
    refine lv_topi (fun y_29 ey_29 => ?_)
    obtain rfl : a_3 = y_29 := ea_3.trans ey_29.symm
    refine lv_aload_n hx hb dL_law_975 rfl (lv_at hl 3 rfl) ?_
    refine lv_iload_n hx hb dL_law_976 rfl (lv_at hl 0 rfl) ?_
    refine lv_iconst (v := 2) hx hb dL_law_977 (by decide) ?_
    refine lv_iadd hx hb dL_law_978 ?_
    refine lv_topi (fun y_30 ey_30 => ?_)
    obtain rfl : y_30 = 2 := ey_30.trans (by decide)
    refine va_sld hx hb hX hbl hbA hS (zf_in (by decide) (by decide)) dL_law_979 ?_
    refine lv_topi (fun y_31 ey_31 => ?_)
    obtain rfl : a_6 = y_31 := ea_6.trans ey_31.symm
    refine lv_aload_n hx hb dL_law_980 rfl (lv_at hl 3 rfl) ?_
    refine lv_iload_n hx hb dL_law_981 rfl (lv_at hl 0 rfl) ?_
    refine lv_iconst (v := 3) hx hb dL_law_982 (by decide) ?_
    refine lv_iadd hx hb dL_law_983 ?_
    refine lv_topi (fun y_32 ey_32 => ?_)
    obtain rfl : y_32 = 3 := ey_32.trans (by decide)
    refine va_sld hx hb hX hbl hbA hS (zf_in (by decide) (by decide)) dL_law_984 ?_
    refine lv_topi (fun y_33 ey_33 => ?_)
    obtain rfl : a_9 = y_33 := ea_9.trans ey_33.symm
    skip
    refine zw_V (As := [.int a_3, .int a_6, .int a_9]) (rest := [.int (-1)]) (wr := [(mki, .inl (cI, 8, .inl (fun _ => 0))), (mpa, .inl (cI, 8, .inl (fun _ => 0))), (mta, .inl (cI, 8, .inl (fun _ => 0))), (mla, .inl (cI, 40, .inl (fun _ => 0))), (msl, .inl (cI, 40, .inl (fun _ => 0))), (mco, .inl (cI, 3, .inl (zL3 5 10 50))), (mso, .inl (cI, 8, .inl (fun _ => 0))), (msi, .inl (cI, 8, .inl (fun _ => 0))), (msh, .inl (cI, 8, .inl (fun _ => 0))), (mce, .inl (cJ, 1280, .inr (.inl (fun _ => 0)))), (mca, .inl (cJ, 160, .inr (.inl (fun _ => 0)))), (mwo, .inl (cI, 64, .inl fw_)), (mnu, .inl (cI, 10, .inl fn_)), (mte, .inl (cI, 3, .inl (fun _ => 0))), (mwa, .inl (cI, 130, .inl (fun _ => 0))), (mke, .inl (cI, 130, .inl (fun _ => 0))), (mma, .inl (cI, 3, .inl (fun _ => 0))), (mth, .inl (cI, 3, .inl (fun _ => 0))), (mtr, .inl (cI, 20, .inl (fun _ => 0)))]) ⟨hx, hb, hml, hown, hts⟩ (c_M_behind l D cI cJ cZ cP cS m0 mrf mki mpa mta mla msl mco mhe mso msi msh mce mca mwo mnu mte mwa mke mma mth mtr (a_3) (a_6) (a_9)  H.size) (cwV 3 hts gq_110 rfl rfl rfl (by decide +kernel) ⟨Nat.le_of_ble_eq_true rfl, Nat.le_of_ble_eq_true rfl⟩) hK hN (hZ.kept hS) hP hD hS hA [0, 1, 8] [2, 3, 4, 5, 6, 7, 9, 10, 11, 12, 13, 14, 15, 16, 17, 18, 19, 20, 21] rfl rfl (by decide) (by decide) (by decide) (va_recv hK hP (ci := 8) (q0 := 0) rfl rfl) rfl hl.1 rfl (Nat.le_of_ble_eq_true rfl) dL_law_985 ⟨Nat.le_of_ble_eq_true rfl, Nat.le_of_ble_eq_true rfl⟩ (fun r_34 u_35 H locs hr_34 hP hD hS => ?_)
    replace hP : va_P D vwCl [(mki, .inl (cI, 8, .inl (fun _ => 0))), (mpa, .inl (cI, 8, .inl (fun _ => 0))), (mta, .inl (cI, 8, .inl (fun _ => 0))), (mla, .inl (cI, 40, .inl (fun _ => 0))), (msl, .inl (cI, 40, .inl (fun _ => 0))), (mco, .inl (cI, 3, .inl (zL3 5 10 50))), (mso, .inl (cI, 8, .inl (fun _ => 0))), (msi, .inl (cI, 8, .inl (fun _ => 0))), (msh, .inl (cI, 8, .inl (fun _ => 0))), (mce, .inl (cJ, 1280, .inr (.inl (fun _ => 0)))), (mca, .inl (cJ, 160, .inr (.inl (fun _ => 0)))), (mwo, .inl (cI, 64, .inl fw_)), (mnu, .inl (cI, 10, .inl fn_)), (mte, .inl (cI, 3, .inl (fun _ => 0))), (mwa, .inl (cI, 130, .inl (fun _ => 0))), (mke, .inl (cI, 130, .inl (fun _ => 0))), (mma, .inl (cI, 3, .inl (fun _ => 0))), (mth, .inl (cI, 3, .inl (fun _ => 0))), (mtr, .inl (cI, 20, .inl (fun _ => 0)))] H := hP
    replace hD : va_D _ [(mki, .inl (cI, 8, .inl (fun _ => 0))), (mpa, .inl (cI, 8, .inl (fun _ => 0))), (mta, .inl (cI, 8, .inl (fun _ => 0))), (mla, .inl (cI, 40, .inl (fun _ => 0))), (msl, .inl (cI, 40, .inl (fun _ => 0))), (mco, .inl (cI, 3, .inl (zL3 5 10 50))), (mso, .inl (cI, 8, .inl (fun _ => 0))), (msi, .inl (cI, 8, .inl (fun _ => 0))), (msh, .inl (cI, 8, .inl (fun _ => 0))), (mce, .inl (cJ, 1280, .inr (.inl (fun _ => 0)))), (mca, .inl (cJ, 160, .inr (.inl (fun _ => 0)))), (mwo, .inl (cI, 64, .inl fw_)), (mnu, .inl (cI, 10, .inl fn_)), (mte, .inl (cI, 3, .inl (fun _ => 0))), (mwa, .inl (cI, 130, .inl (fun _ => 0))), (mke, .inl (cI, 130, .inl (fun _ => 0))), (mma, .inl (cI, 3, .inl (fun _ => 0))), (mth, .inl (cI, 3, .inl (fun _ => 0))), (mtr, .inl (cI, 20, .inl (fun _ => 0)))] := hD
    rcases hr_34 with ⟨rfl, g_36⟩ | ⟨rfl, g_37, g_38⟩ | ⟨rfl, g_39, g_40, g_41⟩ | ⟨rfl, g_42, g_43, g_44⟩
    · refine lv_icmp_eq (tgt := 1371) hx hb dL_law_988 (by decide) (fun c_45 => ?_) (fun c_45 => ?_)
      · refine lv_iinc (v := 6) (lv' := [(3, .int 6), (2, .ref m0), (1, .ref x0), (0, .ref b)]) hx hb dL_law_1371 hl (k := 0) rfl (by decide) (by decide) rfl (fun ls hl => ?_)
        refine lv_goto (tgt := 18) hx hb dL_law_1374 (by decide) ?_
        refine lv_iload_n hx hb dL_law_18 rfl (lv_at hl 0 rfl) ?_
        refine lv_aload_n hx hb dL_law_19 rfl (lv_at hl 3 rfl) ?_
        refine va_slen hx hb hX hbl hbA hS dL_law_20 ?_
        refine lv_topi (fun y_46 ey_46 => ?_)
        obtain rfl : y_46 = 6 := ey_46.trans (by decide)
        refine lv_bipush (v := 6) hx hb dL_law_21 (by decide) ?_
        refine lv_isub hx hb dL_law_23 ?_
        refine lv_topi (fun y_47 ey_47 => ?_)
        obtain rfl : y_47 = 0 := ey_47.trans (by decide)
        refine lv_icmp_gt (tgt := 1377) hx hb dL_law_24 (by decide) (fun c_48 => ?_) (fun c_48 => ?_)
        · refine lv_iconst (v := 1) hx hb dL_law_1377 (by decide) ?_
          refine va_forget (fun q hq => hS.2.2 q hq) ?_
          refine W.widen (k := 600000) (n := 7302250) (Nat.le_of_ble_eq_true rfl) (Nat.le_of_ble_eq_true rfl) ?_
          exact lw_ret hx hb hr hlocks dL_law_1378
        · exact absurd c_48 (by decide)
      · exact absurd c_45 (by decide)
    · exfalso; omega
    · exfalso; omega
    · exfalso; omega
  · refine lv_aload_n hx hb dL_law_969 rfl (lv_at hl 1 rfl) ?_
    refine lv_aload_n hx hb dL_law_970 rfl (lv_at hl 3 rfl) ?_
    refine lv_iload_n hx hb dL_law_971 rfl (lv_at hl 0 rfl) ?_
    refine lv_iconst (v := 1) hx hb dL_law_972 (by decide) ?_
    refine lv_iadd hx hb dL_law_973 ?_
    refine lv_topi (fun y_49 ey_49 => ?_)
    obtain rfl : y_49 = 1 := ey_49.trans (by decide)
    refine va_sld hx hb hX hbl hbA hS (zf_in (by decide) (by decide)) dL_law_974 ?_
    refine lv_topi (fun y_50 ey_50 => ?_)
    obtain rfl : a_3 = y_50 := ea_3.trans ey_50.symm
    refine lv_aload_n hx hb dL_law_975 rfl (lv_at hl 3 rfl) ?_
    refine lv_iload_n hx hb dL_law_976 rfl (lv_at hl 0 rfl) ?_
    refine lv_iconst (v := 2) hx hb dL_law_977 (by decide) ?_
    refine lv_iadd hx hb dL_law_978 ?_
    refine lv_topi (fun y_51 ey_51 => ?_)
    obtain rfl : y_51 = 2 := ey_51.trans (by decide)
    refine va_sld hx hb hX hbl hbA hS (zf_in (by decide) (by decide)) dL_law_979 ?_
    refine lv_topi (fun y_52 ey_52 => ?_)
    obtain rfl : a_6 = y_52 := ea_6.trans ey_52.symm
    refine lv_aload_n hx hb dL_law_980 rfl (lv_at hl 3 rfl) ?_
    refine lv_iload_n hx hb dL_law_981 rfl (lv_at hl 0 rfl) ?_
    refine lv_iconst (v := 3) hx hb dL_law_982 (by decide) ?_
    refine lv_iadd hx hb dL_law_983 ?_
    refine lv_topi (fun y_53 ey_53 => ?_)
    obtain rfl : y_53 = 3 := ey_53.trans (by decide)
    refine va_sld hx hb hX hbl hbA hS (zf_in (by decide) (by decide)) dL_law_984 ?_
    refine lv_topi (fun y_54 ey_54 => ?_)
    obtain rfl : a_9 = y_54 := ea_9.trans ey_54.symm
    skip
    refine zw_V (As := [.int a_3, .int a_6, .int a_9]) (rest := [.int (-1)]) (wr := [(mki, .inl (cI, 8, .inl (fun _ => 0))), (mpa, .inl (cI, 8, .inl (fun _ => 0))), (mta, .inl (cI, 8, .inl (fun _ => 0))), (mla, .inl (cI, 40, .inl (fun _ => 0))), (msl, .inl (cI, 40, .inl (fun _ => 0))), (mco, .inl (cI, 3, .inl (zL3 5 10 50))), (mso, .inl (cI, 8, .inl (fun _ => 0))), (msi, .inl (cI, 8, .inl (fun _ => 0))), (msh, .inl (cI, 8, .inl (fun _ => 0))), (mce, .inl (cJ, 1280, .inr (.inl (fun _ => 0)))), (mca, .inl (cJ, 160, .inr (.inl (fun _ => 0)))), (mwo, .inl (cI, 64, .inl fw_)), (mnu, .inl (cI, 10, .inl fn_)), (mte, .inl (cI, 3, .inl (fun _ => 0))), (mwa, .inl (cI, 130, .inl (fun _ => 0))), (mke, .inl (cI, 130, .inl (fun _ => 0))), (mma, .inl (cI, 3, .inl (fun _ => 0))), (mth, .inl (cI, 3, .inl (fun _ => 0))), (mtr, .inl (cI, 20, .inl (fun _ => 0)))]) ⟨hx, hb, hml, hown, hts⟩ (c_M_behind l D cI cJ cZ cP cS m0 mrf mki mpa mta mla msl mco mhe mso msi msh mce mca mwo mnu mte mwa mke mma mth mtr (a_3) (a_6) (a_9)  H.size) (cwV 3 hts gq_110 rfl rfl rfl (by decide +kernel) ⟨Nat.le_of_ble_eq_true rfl, Nat.le_of_ble_eq_true rfl⟩) hK hN (hZ.kept hS) hP hD hS hA [0, 1, 8] [2, 3, 4, 5, 6, 7, 9, 10, 11, 12, 13, 14, 15, 16, 17, 18, 19, 20, 21] rfl rfl (by decide) (by decide) (by decide) (va_recv hK hP (ci := 8) (q0 := 0) rfl rfl) rfl hl.1 rfl (Nat.le_of_ble_eq_true rfl) dL_law_985 ⟨Nat.le_of_ble_eq_true rfl, Nat.le_of_ble_eq_true rfl⟩ (fun r_55 u_56 H locs hr_55 hP hD hS => ?_)
    replace hP : va_P D vwCl [(mki, .inl (cI, 8, .inl (fun _ => 0))), (mpa, .inl (cI, 8, .inl (fun _ => 0))), (mta, .inl (cI, 8, .inl (fun _ => 0))), (mla, .inl (cI, 40, .inl (fun _ => 0))), (msl, .inl (cI, 40, .inl (fun _ => 0))), (mco, .inl (cI, 3, .inl (zL3 5 10 50))), (mso, .inl (cI, 8, .inl (fun _ => 0))), (msi, .inl (cI, 8, .inl (fun _ => 0))), (msh, .inl (cI, 8, .inl (fun _ => 0))), (mce, .inl (cJ, 1280, .inr (.inl (fun _ => 0)))), (mca, .inl (cJ, 160, .inr (.inl (fun _ => 0)))), (mwo, .inl (cI, 64, .inl fw_)), (mnu, .inl (cI, 10, .inl fn_)), (mte, .inl (cI, 3, .inl (fun _ => 0))), (mwa, .inl (cI, 130, .inl (fun _ => 0))), (mke, .inl (cI, 130, .inl (fun _ => 0))), (mma, .inl (cI, 3, .inl (fun _ => 0))), (mth, .inl (cI, 3, .inl (fun _ => 0))), (mtr, .inl (cI, 20, .inl (fun _ => 0)))] H := hP
    replace hD : va_D _ [(mki, .inl (cI, 8, .inl (fun _ => 0))), (mpa, .inl (cI, 8, .inl (fun _ => 0))), (mta, .inl (cI, 8, .inl (fun _ => 0))), (mla, .inl (cI, 40, .inl (fun _ => 0))), (msl, .inl (cI, 40, .inl (fun _ => 0))), (mco, .inl (cI, 3, .inl (zL3 5 10 50))), (mso, .inl (cI, 8, .inl (fun _ => 0))), (msi, .inl (cI, 8, .inl (fun _ => 0))), (msh, .inl (cI, 8, .inl (fun _ => 0))), (mce, .inl (cJ, 1280, .inr (.inl (fun _ => 0)))), (mca, .inl (cJ, 160, .inr (.inl (fun _ => 0)))), (mwo, .inl (cI, 64, .inl fw_)), (mnu, .inl (cI, 10, .inl fn_)), (mte, .inl (cI, 3, .inl (fun _ => 0))), (mwa, .inl (cI, 130, .inl (fun _ => 0))), (mke, .inl (cI, 130, .inl (fun _ => 0))), (mma, .inl (cI, 3, .inl (fun _ => 0))), (mth, .inl (cI, 3, .inl (fun _ => 0))), (mtr, .inl (cI, 20, .inl (fun _ => 0)))] := hD
    rcases hr_55 with ⟨rfl, g_57⟩ | ⟨rfl, g_58, g_59⟩ | ⟨rfl, g_60, g_61, g_62⟩ | ⟨rfl, g_63, g_64, g_65⟩
    · refine lv_icmp_eq (tgt := 1371) hx hb dL_law_988 (by decide) (fun c_66 => ?_) (fun c_66 => ?_)
      · refine lv_iinc (v := 6) (lv' := [(3, .int 6), (2, .ref m0), (1, .ref x0), (0, .ref b)]) hx hb dL_law_1371 hl (k := 0) rfl (by decide) (by decide) rfl (fun ls hl => ?_)
        refine lv_goto (tgt := 18) hx hb dL_law_1374 (by decide) ?_
        refine lv_iload_n hx hb dL_law_18 rfl (lv_at hl 0 rfl) ?_
        refine lv_aload_n hx hb dL_law_19 rfl (lv_at hl 3 rfl) ?_
        refine va_slen hx hb hX hbl hbA hS dL_law_20 ?_
        refine lv_topi (fun y_67 ey_67 => ?_)
        obtain rfl : y_67 = 6 := ey_67.trans (by decide)
        refine lv_bipush (v := 6) hx hb dL_law_21 (by decide) ?_
        refine lv_isub hx hb dL_law_23 ?_
        refine lv_topi (fun y_68 ey_68 => ?_)
        obtain rfl : y_68 = 0 := ey_68.trans (by decide)
        refine lv_icmp_gt (tgt := 1377) hx hb dL_law_24 (by decide) (fun c_69 => ?_) (fun c_69 => ?_)
        · refine lv_iconst (v := 1) hx hb dL_law_1377 (by decide) ?_
          refine va_forget (fun q hq => hS.2.2 q hq) ?_
          refine W.widen (k := 600000) (n := 7302250) (Nat.le_of_ble_eq_true rfl) (Nat.le_of_ble_eq_true rfl) ?_
          exact lw_ret hx hb hr hlocks dL_law_1378
        · exact absurd c_69 (by decide)
      · exact absurd c_66 (by decide)
    · exfalso; omega
    · exfalso; omega
    · exfalso; omega
  · refine lv_aload_n hx hb dL_law_969 rfl (lv_at hl 1 rfl) ?_
    refine lv_aload_n hx hb dL_law_970 rfl (lv_at hl 3 rfl) ?_
    refine lv_iload_n hx hb dL_law_971 rfl (lv_at hl 0 rfl) ?_
    refine lv_iconst (v := 1) hx hb dL_law_972 (by decide) ?_
    refine lv_iadd hx hb dL_law_973 ?_
    refine lv_topi (fun y_70 ey_70 => ?_)
    obtain rfl : y_70 = 1 := ey_70.trans (by decide)
    refine va_sld hx hb hX hbl hbA hS (zf_in (by decide) (by decide)) dL_law_974 ?_
    refine lv_topi (fun y_71 ey_71 => ?_)
    obtain rfl : a_3 = y_71 := ea_3.trans ey_71.symm
    refine lv_aload_n hx hb dL_law_975 rfl (lv_at hl 3 rfl) ?_
    refine lv_iload_n hx hb dL_law_976 rfl (lv_at hl 0 rfl) ?_
    refine lv_iconst (v := 2) hx hb dL_law_977 (by decide) ?_
    refine lv_iadd hx hb dL_law_978 ?_
    refine lv_topi (fun y_72 ey_72 => ?_)
    obtain rfl : y_72 = 2 := ey_72.trans (by decide)
    refine va_sld hx hb hX hbl hbA hS (zf_in (by decide) (by decide)) dL_law_979 ?_
    refine lv_topi (fun y_73 ey_73 => ?_)
    obtain rfl : a_6 = y_73 := ea_6.trans ey_73.symm
    refine lv_aload_n hx hb dL_law_980 rfl (lv_at hl 3 rfl) ?_
    refine lv_iload_n hx hb dL_law_981 rfl (lv_at hl 0 rfl) ?_
    refine lv_iconst (v := 3) hx hb dL_law_982 (by decide) ?_
    refine lv_iadd hx hb dL_law_983 ?_
    refine lv_topi (fun y_74 ey_74 => ?_)
    obtain rfl : y_74 = 3 := ey_74.trans (by decide)
    refine va_sld hx hb hX hbl hbA hS (zf_in (by decide) (by decide)) dL_law_984 ?_
    refine lv_topi (fun y_75 ey_75 => ?_)
    obtain rfl : a_9 = y_75 := ea_9.trans ey_75.symm
    skip
    refine zw_V (As := [.int a_3, .int a_6, .int a_9]) (rest := [.int (-1)]) (wr := [(mki, .inl (cI, 8, .inl (fun _ => 0))), (mpa, .inl (cI, 8, .inl (fun _ => 0))), (mta, .inl (cI, 8, .inl (fun _ => 0))), (mla, .inl (cI, 40, .inl (fun _ => 0))), (msl, .inl (cI, 40, .inl (fun _ => 0))), (mco, .inl (cI, 3, .inl (zL3 5 10 50))), (mso, .inl (cI, 8, .inl (fun _ => 0))), (msi, .inl (cI, 8, .inl (fun _ => 0))), (msh, .inl (cI, 8, .inl (fun _ => 0))), (mce, .inl (cJ, 1280, .inr (.inl (fun _ => 0)))), (mca, .inl (cJ, 160, .inr (.inl (fun _ => 0)))), (mwo, .inl (cI, 64, .inl fw_)), (mnu, .inl (cI, 10, .inl fn_)), (mte, .inl (cI, 3, .inl (fun _ => 0))), (mwa, .inl (cI, 130, .inl (fun _ => 0))), (mke, .inl (cI, 130, .inl (fun _ => 0))), (mma, .inl (cI, 3, .inl (fun _ => 0))), (mth, .inl (cI, 3, .inl (fun _ => 0))), (mtr, .inl (cI, 20, .inl (fun _ => 0)))]) ⟨hx, hb, hml, hown, hts⟩ (c_M_behind l D cI cJ cZ cP cS m0 mrf mki mpa mta mla msl mco mhe mso msi msh mce mca mwo mnu mte mwa mke mma mth mtr (a_3) (a_6) (a_9)  H.size) (cwV 3 hts gq_110 rfl rfl rfl (by decide +kernel) ⟨Nat.le_of_ble_eq_true rfl, Nat.le_of_ble_eq_true rfl⟩) hK hN (hZ.kept hS) hP hD hS hA [0, 1, 8] [2, 3, 4, 5, 6, 7, 9, 10, 11, 12, 13, 14, 15, 16, 17, 18, 19, 20, 21] rfl rfl (by decide) (by decide) (by decide) (va_recv hK hP (ci := 8) (q0 := 0) rfl rfl) rfl hl.1 rfl (Nat.le_of_ble_eq_true rfl) dL_law_985 ⟨Nat.le_of_ble_eq_true rfl, Nat.le_of_ble_eq_true rfl⟩ (fun r_76 u_77 H locs hr_76 hP hD hS => ?_)
    replace hP : va_P D vwCl [(mki, .inl (cI, 8, .inl (fun _ => 0))), (mpa, .inl (cI, 8, .inl (fun _ => 0))), (mta, .inl (cI, 8, .inl (fun _ => 0))), (mla, .inl (cI, 40, .inl (fun _ => 0))), (msl, .inl (cI, 40, .inl (fun _ => 0))), (mco, .inl (cI, 3, .inl (zL3 5 10 50))), (mso, .inl (cI, 8, .inl (fun _ => 0))), (msi, .inl (cI, 8, .inl (fun _ => 0))), (msh, .inl (cI, 8, .inl (fun _ => 0))), (mce, .inl (cJ, 1280, .inr (.inl (fun _ => 0)))), (mca, .inl (cJ, 160, .inr (.inl (fun _ => 0)))), (mwo, .inl (cI, 64, .inl fw_)), (mnu, .inl (cI, 10, .inl fn_)), (mte, .inl (cI, 3, .inl (fun _ => 0))), (mwa, .inl (cI, 130, .inl (fun _ => 0))), (mke, .inl (cI, 130, .inl (fun _ => 0))), (mma, .inl (cI, 3, .inl (fun _ => 0))), (mth, .inl (cI, 3, .inl (fun _ => 0))), (mtr, .inl (cI, 20, .inl (fun _ => 0)))] H := hP
    replace hD : va_D _ [(mki, .inl (cI, 8, .inl (fun _ => 0))), (mpa, .inl (cI, 8, .inl (fun _ => 0))), (mta, .inl (cI, 8, .inl (fun _ => 0))), (mla, .inl (cI, 40, .inl (fun _ => 0))), (msl, .inl (cI, 40, .inl (fun _ => 0))), (mco, .inl (cI, 3, .inl (zL3 5 10 50))), (mso, .inl (cI, 8, .inl (fun _ => 0))), (msi, .inl (cI, 8, .inl (fun _ => 0))), (msh, .inl (cI, 8, .inl (fun _ => 0))), (mce, .inl (cJ, 1280, .inr (.inl (fun _ => 0)))), (mca, .inl (cJ, 160, .inr (.inl (fun _ => 0)))), (mwo, .inl (cI, 64, .inl fw_)), (mnu, .inl (cI, 10, .inl fn_)), (mte, .inl (cI, 3, .inl (fun _ => 0))), (mwa, .inl (cI, 130, .inl (fun _ => 0))), (mke, .inl (cI, 130, .inl (fun _ => 0))), (mma, .inl (cI, 3, .inl (fun _ => 0))), (mth, .inl (cI, 3, .inl (fun _ => 0))), (mtr, .inl (cI, 20, .inl (fun _ => 0)))] := hD
    rcases hr_76 with ⟨rfl, g_78⟩ | ⟨rfl, g_79, g_80⟩ | ⟨rfl, g_81, g_82, g_83⟩ | ⟨rfl, g_84, g_85, g_86⟩
    · exfalso; omega
    · refine lv_icmp_eq (tgt := 1371) hx hb dL_law_988 (by decide) (fun c_87 => ?_) (fun c_87 => ?_)
      · refine lv_iinc (v := 6) (lv' := [(3, .int 6), (2, .ref m0), (1, .ref x0), (0, .ref b)]) hx hb dL_law_1371 hl (k := 0) rfl (by decide) (by decide) rfl (fun ls hl => ?_)
        refine lv_goto (tgt := 18) hx hb dL_law_1374 (by decide) ?_
        refine lv_iload_n hx hb dL_law_18 rfl (lv_at hl 0 rfl) ?_
        refine lv_aload_n hx hb dL_law_19 rfl (lv_at hl 3 rfl) ?_
        refine va_slen hx hb hX hbl hbA hS dL_law_20 ?_
        refine lv_topi (fun y_88 ey_88 => ?_)
        obtain rfl : y_88 = 6 := ey_88.trans (by decide)
        refine lv_bipush (v := 6) hx hb dL_law_21 (by decide) ?_
        refine lv_isub hx hb dL_law_23 ?_
        refine lv_topi (fun y_89 ey_89 => ?_)
        obtain rfl : y_89 = 0 := ey_89.trans (by decide)
        refine lv_icmp_gt (tgt := 1377) hx hb dL_law_24 (by decide) (fun c_90 => ?_) (fun c_90 => ?_)
        · refine lv_iconst (v := 1) hx hb dL_law_1377 (by decide) ?_
          refine va_forget (fun q hq => hS.2.2 q hq) ?_
          refine W.widen (k := 600000) (n := 7302250) (Nat.le_of_ble_eq_true rfl) (Nat.le_of_ble_eq_true rfl) ?_
          exact lw_ret hx hb hr hlocks dL_law_1378
        · exact absurd c_90 (by decide)
      · exact absurd c_87 (by decide)
    · exfalso; omega
    · exfalso; omega
  · refine lv_aload_n hx hb dL_law_969 rfl (lv_at hl 1 rfl) ?_
    refine lv_aload_n hx hb dL_law_970 rfl (lv_at hl 3 rfl) ?_
    refine lv_iload_n hx hb dL_law_971 rfl (lv_at hl 0 rfl) ?_
    refine lv_iconst (v := 1) hx hb dL_law_972 (by decide) ?_
    refine lv_iadd hx hb dL_law_973 ?_
    refine lv_topi (fun y_91 ey_91 => ?_)
    obtain rfl : y_91 = 1 := ey_91.trans (by decide)
    refine va_sld hx hb hX hbl hbA hS (zf_in (by decide) (by decide)) dL_law_974 ?_
    refine lv_topi (fun y_92 ey_92 => ?_)
    obtain rfl : a_3 = y_92 := ea_3.trans ey_92.symm
    refine lv_aload_n hx hb dL_law_975 rfl (lv_at hl 3 rfl) ?_
    refine lv_iload_n hx hb dL_law_976 rfl (lv_at hl 0 rfl) ?_
    refine lv_iconst (v := 2) hx hb dL_law_977 (by decide) ?_
    refine lv_iadd hx hb dL_law_978 ?_
    refine lv_topi (fun y_93 ey_93 => ?_)
    obtain rfl : y_93 = 2 := ey_93.trans (by decide)
    refine va_sld hx hb hX hbl hbA hS (zf_in (by decide) (by decide)) dL_law_979 ?_
    refine lv_topi (fun y_94 ey_94 => ?_)
    obtain rfl : a_6 = y_94 := ea_6.trans ey_94.symm
    refine lv_aload_n hx hb dL_law_980 rfl (lv_at hl 3 rfl) ?_
    refine lv_iload_n hx hb dL_law_981 rfl (lv_at hl 0 rfl) ?_
    refine lv_iconst (v := 3) hx hb dL_law_982 (by decide) ?_
    refine lv_iadd hx hb dL_law_983 ?_
    refine lv_topi (fun y_95 ey_95 => ?_)
    obtain rfl : y_95 = 3 := ey_95.trans (by decide)
    refine va_sld hx hb hX hbl hbA hS (zf_in (by decide) (by decide)) dL_law_984 ?_
    refine lv_topi (fun y_96 ey_96 => ?_)
    obtain rfl : a_9 = y_96 := ea_9.trans ey_96.symm
    skip
    refine zw_V (As := [.int a_3, .int a_6, .int a_9]) (rest := [.int (-1)]) (wr := [(mki, .inl (cI, 8, .inl (fun _ => 0))), (mpa, .inl (cI, 8, .inl (fun _ => 0))), (mta, .inl (cI, 8, .inl (fun _ => 0))), (mla, .inl (cI, 40, .inl (fun _ => 0))), (msl, .inl (cI, 40, .inl (fun _ => 0))), (mco, .inl (cI, 3, .inl (zL3 5 10 50))), (mso, .inl (cI, 8, .inl (fun _ => 0))), (msi, .inl (cI, 8, .inl (fun _ => 0))), (msh, .inl (cI, 8, .inl (fun _ => 0))), (mce, .inl (cJ, 1280, .inr (.inl (fun _ => 0)))), (mca, .inl (cJ, 160, .inr (.inl (fun _ => 0)))), (mwo, .inl (cI, 64, .inl fw_)), (mnu, .inl (cI, 10, .inl fn_)), (mte, .inl (cI, 3, .inl (fun _ => 0))), (mwa, .inl (cI, 130, .inl (fun _ => 0))), (mke, .inl (cI, 130, .inl (fun _ => 0))), (mma, .inl (cI, 3, .inl (fun _ => 0))), (mth, .inl (cI, 3, .inl (fun _ => 0))), (mtr, .inl (cI, 20, .inl (fun _ => 0)))]) ⟨hx, hb, hml, hown, hts⟩ (c_M_behind l D cI cJ cZ cP cS m0 mrf mki mpa mta mla msl mco mhe mso msi msh mce mca mwo mnu mte mwa mke mma mth mtr (a_3) (a_6) (a_9)  H.size) (cwV 3 hts gq_110 rfl rfl rfl (by decide +kernel) ⟨Nat.le_of_ble_eq_true rfl, Nat.le_of_ble_eq_true rfl⟩) hK hN (hZ.kept hS) hP hD hS hA [0, 1, 8] [2, 3, 4, 5, 6, 7, 9, 10, 11, 12, 13, 14, 15, 16, 17, 18, 19, 20, 21] rfl rfl (by decide) (by decide) (by decide) (va_recv hK hP (ci := 8) (q0 := 0) rfl rfl) rfl hl.1 rfl (Nat.le_of_ble_eq_true rfl) dL_law_985 ⟨Nat.le_of_ble_eq_true rfl, Nat.le_of_ble_eq_true rfl⟩ (fun r_97 u_98 H locs hr_97 hP hD hS => ?_)
    replace hP : va_P D vwCl [(mki, .inl (cI, 8, .inl (fun _ => 0))), (mpa, .inl (cI, 8, .inl (fun _ => 0))), (mta, .inl (cI, 8, .inl (fun _ => 0))), (mla, .inl (cI, 40, .inl (fun _ => 0))), (msl, .inl (cI, 40, .inl (fun _ => 0))), (mco, .inl (cI, 3, .inl (zL3 5 10 50))), (mso, .inl (cI, 8, .inl (fun _ => 0))), (msi, .inl (cI, 8, .inl (fun _ => 0))), (msh, .inl (cI, 8, .inl (fun _ => 0))), (mce, .inl (cJ, 1280, .inr (.inl (fun _ => 0)))), (mca, .inl (cJ, 160, .inr (.inl (fun _ => 0)))), (mwo, .inl (cI, 64, .inl fw_)), (mnu, .inl (cI, 10, .inl fn_)), (mte, .inl (cI, 3, .inl (fun _ => 0))), (mwa, .inl (cI, 130, .inl (fun _ => 0))), (mke, .inl (cI, 130, .inl (fun _ => 0))), (mma, .inl (cI, 3, .inl (fun _ => 0))), (mth, .inl (cI, 3, .inl (fun _ => 0))), (mtr, .inl (cI, 20, .inl (fun _ => 0)))] H := hP
    replace hD : va_D _ [(mki, .inl (cI, 8, .inl (fun _ => 0))), (mpa, .inl (cI, 8, .inl (fun _ => 0))), (mta, .inl (cI, 8, .inl (fun _ => 0))), (mla, .inl (cI, 40, .inl (fun _ => 0))), (msl, .inl (cI, 40, .inl (fun _ => 0))), (mco, .inl (cI, 3, .inl (zL3 5 10 50))), (mso, .inl (cI, 8, .inl (fun _ => 0))), (msi, .inl (cI, 8, .inl (fun _ => 0))), (msh, .inl (cI, 8, .inl (fun _ => 0))), (mce, .inl (cJ, 1280, .inr (.inl (fun _ => 0)))), (mca, .inl (cJ, 160, .inr (.inl (fun _ => 0)))), (mwo, .inl (cI, 64, .inl fw_)), (mnu, .inl (cI, 10, .inl fn_)), (mte, .inl (cI, 3, .inl (fun _ => 0))), (mwa, .inl (cI, 130, .inl (fun _ => 0))), (mke, .inl (cI, 130, .inl (fun _ => 0))), (mma, .inl (cI, 3, .inl (fun _ => 0))), (mth, .inl (cI, 3, .inl (fun _ => 0))), (mtr, .inl (cI, 20, .inl (fun _ => 0)))] := hD
    rcases hr_97 with ⟨rfl, g_99⟩ | ⟨rfl, g_100, g_101⟩ | ⟨rfl, g_102, g_103, g_104⟩ | ⟨rfl, g_105, g_106, g_107⟩
    · exfalso; omega
    · refine lv_icmp_eq (tgt := 1371) hx hb dL_law_988 (by decide) (fun c_108 => ?_) (fun c_108 => ?_)
      · refine lv_iinc (v := 6) (lv' := [(3, .int 6), (2, .ref m0), (1, .ref x0), (0, .ref b)]) hx hb dL_law_1371 hl (k := 0) rfl (by decide) (by decide) rfl (fun ls hl => ?_)
        refine lv_goto (tgt := 18) hx hb dL_law_1374 (by decide) ?_
        refine lv_iload_n hx hb dL_law_18 rfl (lv_at hl 0 rfl) ?_
        refine lv_aload_n hx hb dL_law_19 rfl (lv_at hl 3 rfl) ?_
        refine va_slen hx hb hX hbl hbA hS dL_law_20 ?_
        refine lv_topi (fun y_109 ey_109 => ?_)
        obtain rfl : y_109 = 6 := ey_109.trans (by decide)
        refine lv_bipush (v := 6) hx hb dL_law_21 (by decide) ?_
        refine lv_isub hx hb dL_law_23 ?_
        refine lv_topi (fun y_110 ey_110 => ?_)
        obtain rfl : y_110 = 0 := ey_110.trans (by decide)
        refine lv_icmp_gt (tgt := 1377) hx hb dL_law_24 (by decide) (fun c_111 => ?_) (fun c_111 => ?_)
        · refine lv_iconst (v := 1) hx hb dL_law_1377 (by decide) ?_
          refine va_forget (fun q hq => hS.2.2 q hq) ?_
          refine W.widen (k := 600000) (n := 7302250) (Nat.le_of_ble_eq_true rfl) (Nat.le_of_ble_eq_true rfl) ?_
          exact lw_ret hx hb hr hlocks dL_law_1378
        · exact absurd c_111 (by decide)
      · exact absurd c_108 (by decide)
    · exfalso; omega
    · exfalso; omega
  · refine lv_aload_n hx hb dL_law_969 rfl (lv_at hl 1 rfl) ?_
    refine lv_aload_n hx hb dL_law_970 rfl (lv_at hl 3 rfl) ?_
    refine lv_iload_n hx hb dL_law_971 rfl (lv_at hl 0 rfl) ?_
    refine lv_iconst (v := 1) hx hb dL_law_972 (by decide) ?_
    refine lv_iadd hx hb dL_law_973 ?_
    refine lv_topi (fun y_112 ey_112 => ?_)
    obtain rfl : y_112 = 1 := ey_112.trans (by decide)
    refine va_sld hx hb hX hbl hbA hS (zf_in (by decide) (by decide)) dL_law_974 ?_
    refine lv_topi (fun y_113 ey_113 => ?_)
    obtain rfl : a_3 = y_113 := ea_3.trans ey_113.symm
    refine lv_aload_n hx hb dL_law_975 rfl (lv_at hl 3 rfl) ?_
    refine lv_iload_n hx hb dL_law_976 rfl (lv_at hl 0 rfl) ?_
    refine lv_iconst (v := 2) hx hb dL_law_977 (by decide) ?_
    refine lv_iadd hx hb dL_law_978 ?_
    refine lv_topi (fun y_114 ey_114 => ?_)
    obtain rfl : y_114 = 2 := ey_114.trans (by decide)
    refine va_sld hx hb hX hbl hbA hS (zf_in (by decide) (by decide)) dL_law_979 ?_
    refine lv_topi (fun y_115 ey_115 => ?_)
    obtain rfl : a_6 = y_115 := ea_6.trans ey_115.symm
    refine lv_aload_n hx hb dL_law_980 rfl (lv_at hl 3 rfl) ?_
    refine lv_iload_n hx hb dL_law_981 rfl (lv_at hl 0 rfl) ?_
    refine lv_iconst (v := 3) hx hb dL_law_982 (by decide) ?_
    refine lv_iadd hx hb dL_law_983 ?_
    refine lv_topi (fun y_116 ey_116 => ?_)
    obtain rfl : y_116 = 3 := ey_116.trans (by decide)
    refine va_sld hx hb hX hbl hbA hS (zf_in (by decide) (by decide)) dL_law_984 ?_
    refine lv_topi (fun y_117 ey_117 => ?_)
    obtain rfl : a_9 = y_117 := ea_9.trans ey_117.symm
    skip
    refine zw_V (As := [.int a_3, .int a_6, .int a_9]) (rest := [.int (-1)]) (wr := [(mki, .inl (cI, 8, .inl (fun _ => 0))), (mpa, .inl (cI, 8, .inl (fun _ => 0))), (mta, .inl (cI, 8, .inl (fun _ => 0))), (mla, .inl (cI, 40, .inl (fun _ => 0))), (msl, .inl (cI, 40, .inl (fun _ => 0))), (mco, .inl (cI, 3, .inl (zL3 5 10 50))), (mso, .inl (cI, 8, .inl (fun _ => 0))), (msi, .inl (cI, 8, .inl (fun _ => 0))), (msh, .inl (cI, 8, .inl (fun _ => 0))), (mce, .inl (cJ, 1280, .inr (.inl (fun _ => 0)))), (mca, .inl (cJ, 160, .inr (.inl (fun _ => 0)))), (mwo, .inl (cI, 64, .inl fw_)), (mnu, .inl (cI, 10, .inl fn_)), (mte, .inl (cI, 3, .inl (fun _ => 0))), (mwa, .inl (cI, 130, .inl (fun _ => 0))), (mke, .inl (cI, 130, .inl (fun _ => 0))), (mma, .inl (cI, 3, .inl (fun _ => 0))), (mth, .inl (cI, 3, .inl (fun _ => 0))), (mtr, .inl (cI, 20, .inl (fun _ => 0)))]) ⟨hx, hb, hml, hown, hts⟩ (c_M_behind l D cI cJ cZ cP cS m0 mrf mki mpa mta mla msl mco mhe mso msi msh mce mca mwo mnu mte mwa mke mma mth mtr (a_3) (a_6) (a_9)  H.size) (cwV 3 hts gq_110 rfl rfl rfl (by decide +kernel) ⟨Nat.le_of_ble_eq_true rfl, Nat.le_of_ble_eq_true rfl⟩) hK hN (hZ.kept hS) hP hD hS hA [0, 1, 8] [2, 3, 4, 5, 6, 7, 9, 10, 11, 12, 13, 14, 15, 16, 17, 18, 19, 20, 21] rfl rfl (by decide) (by decide) (by decide) (va_recv hK hP (ci := 8) (q0 := 0) rfl rfl) rfl hl.1 rfl (Nat.le_of_ble_eq_true rfl) dL_law_985 ⟨Nat.le_of_ble_eq_true rfl, Nat.le_of_ble_eq_true rfl⟩ (fun r_118 u_119 H locs hr_118 hP hD hS => ?_)
    replace hP : va_P D vwCl [(mki, .inl (cI, 8, .inl (fun _ => 0))), (mpa, .inl (cI, 8, .inl (fun _ => 0))), (mta, .inl (cI, 8, .inl (fun _ => 0))), (mla, .inl (cI, 40, .inl (fun _ => 0))), (msl, .inl (cI, 40, .inl (fun _ => 0))), (mco, .inl (cI, 3, .inl (zL3 5 10 50))), (mso, .inl (cI, 8, .inl (fun _ => 0))), (msi, .inl (cI, 8, .inl (fun _ => 0))), (msh, .inl (cI, 8, .inl (fun _ => 0))), (mce, .inl (cJ, 1280, .inr (.inl (fun _ => 0)))), (mca, .inl (cJ, 160, .inr (.inl (fun _ => 0)))), (mwo, .inl (cI, 64, .inl fw_)), (mnu, .inl (cI, 10, .inl fn_)), (mte, .inl (cI, 3, .inl (fun _ => 0))), (mwa, .inl (cI, 130, .inl (fun _ => 0))), (mke, .inl (cI, 130, .inl (fun _ => 0))), (mma, .inl (cI, 3, .inl (fun _ => 0))), (mth, .inl (cI, 3, .inl (fun _ => 0))), (mtr, .inl (cI, 20, .inl (fun _ => 0)))] H := hP
    replace hD : va_D _ [(mki, .inl (cI, 8, .inl (fun _ => 0))), (mpa, .inl (cI, 8, .inl (fun _ => 0))), (mta, .inl (cI, 8, .inl (fun _ => 0))), (mla, .inl (cI, 40, .inl (fun _ => 0))), (msl, .inl (cI, 40, .inl (fun _ => 0))), (mco, .inl (cI, 3, .inl (zL3 5 10 50))), (mso, .inl (cI, 8, .inl (fun _ => 0))), (msi, .inl (cI, 8, .inl (fun _ => 0))), (msh, .inl (cI, 8, .inl (fun _ => 0))), (mce, .inl (cJ, 1280, .inr (.inl (fun _ => 0)))), (mca, .inl (cJ, 160, .inr (.inl (fun _ => 0)))), (mwo, .inl (cI, 64, .inl fw_)), (mnu, .inl (cI, 10, .inl fn_)), (mte, .inl (cI, 3, .inl (fun _ => 0))), (mwa, .inl (cI, 130, .inl (fun _ => 0))), (mke, .inl (cI, 130, .inl (fun _ => 0))), (mma, .inl (cI, 3, .inl (fun _ => 0))), (mth, .inl (cI, 3, .inl (fun _ => 0))), (mtr, .inl (cI, 20, .inl (fun _ => 0)))] := hD
    rcases hr_118 with ⟨rfl, g_120⟩ | ⟨rfl, g_121, g_122⟩ | ⟨rfl, g_123, g_124, g_125⟩ | ⟨rfl, g_126, g_127, g_128⟩
    · exfalso; omega
    · exfalso; omega
    · refine lv_icmp_eq (tgt := 1371) hx hb dL_law_988 (by decide) (fun c_129 => ?_) (fun c_129 => ?_)
      · refine lv_iinc (v := 6) (lv' := [(3, .int 6), (2, .ref m0), (1, .ref x0), (0, .ref b)]) hx hb dL_law_1371 hl (k := 0) rfl (by decide) (by decide) rfl (fun ls hl => ?_)
        refine lv_goto (tgt := 18) hx hb dL_law_1374 (by decide) ?_
        refine lv_iload_n hx hb dL_law_18 rfl (lv_at hl 0 rfl) ?_
        refine lv_aload_n hx hb dL_law_19 rfl (lv_at hl 3 rfl) ?_
        refine va_slen hx hb hX hbl hbA hS dL_law_20 ?_
        refine lv_topi (fun y_130 ey_130 => ?_)
        obtain rfl : y_130 = 6 := ey_130.trans (by decide)
        refine lv_bipush (v := 6) hx hb dL_law_21 (by decide) ?_
        refine lv_isub hx hb dL_law_23 ?_
        refine lv_topi (fun y_131 ey_131 => ?_)
        obtain rfl : y_131 = 0 := ey_131.trans (by decide)
        refine lv_icmp_gt (tgt := 1377) hx hb dL_law_24 (by decide) (fun c_132 => ?_) (fun c_132 => ?_)
        · refine lv_iconst (v := 1) hx hb dL_law_1377 (by decide) ?_
          refine va_forget (fun q hq => hS.2.2 q hq) ?_
          refine W.widen (k := 600000) (n := 7302250) (Nat.le_of_ble_eq_true rfl) (Nat.le_of_ble_eq_true rfl) ?_
          exact lw_ret hx hb hr hlocks dL_law_1378
        · exact absurd c_132 (by decide)
      · exact absurd c_129 (by decide)
    · exfalso; omega
  · refine lv_aload_n hx hb dL_law_969 rfl (lv_at hl 1 rfl) ?_
    refine lv_aload_n hx hb dL_law_970 rfl (lv_at hl 3 rfl) ?_
    refine lv_iload_n hx hb dL_law_971 rfl (lv_at hl 0 rfl) ?_
    refine lv_iconst (v := 1) hx hb dL_law_972 (by decide) ?_
    refine lv_iadd hx hb dL_law_973 ?_
    refine lv_topi (fun y_133 ey_133 => ?_)
    obtain rfl : y_133 = 1 := ey_133.trans (by decide)
    refine va_sld hx hb hX hbl hbA hS (zf_in (by decide) (by decide)) dL_law_974 ?_
    refine lv_topi (fun y_134 ey_134 => ?_)
    obtain rfl : a_3 = y_134 := ea_3.trans ey_134.symm
    refine lv_aload_n hx hb dL_law_975 rfl (lv_at hl 3 rfl) ?_
    refine lv_iload_n hx hb dL_law_976 rfl (lv_at hl 0 rfl) ?_
    refine lv_iconst (v := 2) hx hb dL_law_977 (by decide) ?_
    refine lv_iadd hx hb dL_law_978 ?_
    refine lv_topi (fun y_135 ey_135 => ?_)
    obtain rfl : y_135 = 2 := ey_135.trans (by decide)
    refine va_sld hx hb hX hbl hbA hS (zf_in (by decide) (by decide)) dL_law_979 ?_
    refine lv_topi (fun y_136 ey_136 => ?_)
    obtain rfl : a_6 = y_136 := ea_6.trans ey_136.symm
    refine lv_aload_n hx hb dL_law_980 rfl (lv_at hl 3 rfl) ?_
    refine lv_iload_n hx hb dL_law_981 rfl (lv_at hl 0 rfl) ?_
    refine lv_iconst (v := 3) hx hb dL_law_982 (by decide) ?_
    refine lv_iadd hx hb dL_law_983 ?_
    refine lv_topi (fun y_137 ey_137 => ?_)
    obtain rfl : y_137 = 3 := ey_137.trans (by decide)
    refine va_sld hx hb hX hbl hbA hS (zf_in (by decide) (by decide)) dL_law_984 ?_
    refine lv_topi (fun y_138 ey_138 => ?_)
    obtain rfl : a_9 = y_138 := ea_9.trans ey_138.symm
    skip
    refine zw_V (As := [.int a_3, .int a_6, .int a_9]) (rest := [.int (-1)]) (wr := [(mki, .inl (cI, 8, .inl (fun _ => 0))), (mpa, .inl (cI, 8, .inl (fun _ => 0))), (mta, .inl (cI, 8, .inl (fun _ => 0))), (mla, .inl (cI, 40, .inl (fun _ => 0))), (msl, .inl (cI, 40, .inl (fun _ => 0))), (mco, .inl (cI, 3, .inl (zL3 5 10 50))), (mso, .inl (cI, 8, .inl (fun _ => 0))), (msi, .inl (cI, 8, .inl (fun _ => 0))), (msh, .inl (cI, 8, .inl (fun _ => 0))), (mce, .inl (cJ, 1280, .inr (.inl (fun _ => 0)))), (mca, .inl (cJ, 160, .inr (.inl (fun _ => 0)))), (mwo, .inl (cI, 64, .inl fw_)), (mnu, .inl (cI, 10, .inl fn_)), (mte, .inl (cI, 3, .inl (fun _ => 0))), (mwa, .inl (cI, 130, .inl (fun _ => 0))), (mke, .inl (cI, 130, .inl (fun _ => 0))), (mma, .inl (cI, 3, .inl (fun _ => 0))), (mth, .inl (cI, 3, .inl (fun _ => 0))), (mtr, .inl (cI, 20, .inl (fun _ => 0)))]) ⟨hx, hb, hml, hown, hts⟩ (c_M_behind l D cI cJ cZ cP cS m0 mrf mki mpa mta mla msl mco mhe mso msi msh mce mca mwo mnu mte mwa mke mma mth mtr (a_3) (a_6) (a_9)  H.size) (cwV 3 hts gq_110 rfl rfl rfl (by decide +kernel) ⟨Nat.le_of_ble_eq_true rfl, Nat.le_of_ble_eq_true rfl⟩) hK hN (hZ.kept hS) hP hD hS hA [0, 1, 8] [2, 3, 4, 5, 6, 7, 9, 10, 11, 12, 13, 14, 15, 16, 17, 18, 19, 20, 21] rfl rfl (by decide) (by decide) (by decide) (va_recv hK hP (ci := 8) (q0 := 0) rfl rfl) rfl hl.1 rfl (Nat.le_of_ble_eq_true rfl) dL_law_985 ⟨Nat.le_of_ble_eq_true rfl, Nat.le_of_ble_eq_true rfl⟩ (fun r_139 u_140 H locs hr_139 hP hD hS => ?_)
    replace hP : va_P D vwCl [(mki, .inl (cI, 8, .inl (fun _ => 0))), (mpa, .inl (cI, 8, .inl (fun _ => 0))), (mta, .inl (cI, 8, .inl (fun _ => 0))), (mla, .inl (cI, 40, .inl (fun _ => 0))), (msl, .inl (cI, 40, .inl (fun _ => 0))), (mco, .inl (cI, 3, .inl (zL3 5 10 50))), (mso, .inl (cI, 8, .inl (fun _ => 0))), (msi, .inl (cI, 8, .inl (fun _ => 0))), (msh, .inl (cI, 8, .inl (fun _ => 0))), (mce, .inl (cJ, 1280, .inr (.inl (fun _ => 0)))), (mca, .inl (cJ, 160, .inr (.inl (fun _ => 0)))), (mwo, .inl (cI, 64, .inl fw_)), (mnu, .inl (cI, 10, .inl fn_)), (mte, .inl (cI, 3, .inl (fun _ => 0))), (mwa, .inl (cI, 130, .inl (fun _ => 0))), (mke, .inl (cI, 130, .inl (fun _ => 0))), (mma, .inl (cI, 3, .inl (fun _ => 0))), (mth, .inl (cI, 3, .inl (fun _ => 0))), (mtr, .inl (cI, 20, .inl (fun _ => 0)))] H := hP
    replace hD : va_D _ [(mki, .inl (cI, 8, .inl (fun _ => 0))), (mpa, .inl (cI, 8, .inl (fun _ => 0))), (mta, .inl (cI, 8, .inl (fun _ => 0))), (mla, .inl (cI, 40, .inl (fun _ => 0))), (msl, .inl (cI, 40, .inl (fun _ => 0))), (mco, .inl (cI, 3, .inl (zL3 5 10 50))), (mso, .inl (cI, 8, .inl (fun _ => 0))), (msi, .inl (cI, 8, .inl (fun _ => 0))), (msh, .inl (cI, 8, .inl (fun _ => 0))), (mce, .inl (cJ, 1280, .inr (.inl (fun _ => 0)))), (mca, .inl (cJ, 160, .inr (.inl (fun _ => 0)))), (mwo, .inl (cI, 64, .inl fw_)), (mnu, .inl (cI, 10, .inl fn_)), (mte, .inl (cI, 3, .inl (fun _ => 0))), (mwa, .inl (cI, 130, .inl (fun _ => 0))), (mke, .inl (cI, 130, .inl (fun _ => 0))), (mma, .inl (cI, 3, .inl (fun _ => 0))), (mth, .inl (cI, 3, .inl (fun _ => 0))), (mtr, .inl (cI, 20, .inl (fun _ => 0)))] := hD
    rcases hr_139 with ⟨rfl, g_141⟩ | ⟨rfl, g_142, g_143⟩ | ⟨rfl, g_144, g_145, g_146⟩ | ⟨rfl, g_147, g_148, g_149⟩
    · exfalso; omega
    · exfalso; omega
    · exfalso; omega
    · refine lv_icmp_eq (tgt := 1371) hx hb dL_law_988 (by decide) (fun c_150 => ?_) (fun c_150 => ?_)
      · refine lv_iinc (v := 6) (lv' := [(3, .int 6), (2, .ref m0), (1, .ref x0), (0, .ref b)]) hx hb dL_law_1371 hl (k := 0) rfl (by decide) (by decide) rfl (fun ls hl => ?_)
        refine lv_goto (tgt := 18) hx hb dL_law_1374 (by decide) ?_
        refine lv_iload_n hx hb dL_law_18 rfl (lv_at hl 0 rfl) ?_
        refine lv_aload_n hx hb dL_law_19 rfl (lv_at hl 3 rfl) ?_
        refine va_slen hx hb hX hbl hbA hS dL_law_20 ?_
        refine lv_topi (fun y_151 ey_151 => ?_)
        obtain rfl : y_151 = 6 := ey_151.trans (by decide)
        refine lv_bipush (v := 6) hx hb dL_law_21 (by decide) ?_
        refine lv_isub hx hb dL_law_23 ?_
        refine lv_topi (fun y_152 ey_152 => ?_)
        obtain rfl : y_152 = 0 := ey_152.trans (by decide)
        refine lv_icmp_gt (tgt := 1377) hx hb dL_law_24 (by decide) (fun c_153 => ?_) (fun c_153 => ?_)
        · refine lv_iconst (v := 1) hx hb dL_law_1377 (by decide) ?_
          refine va_forget (fun q hq => hS.2.2 q hq) ?_
          refine W.widen (k := 600000) (n := 7302250) (Nat.le_of_ble_eq_true rfl) (Nat.le_of_ble_eq_true rfl) ?_
          exact lw_ret hx hb hr hlocks dL_law_1378
        · exact absurd c_153 (by decide)
      · exact absurd c_150 (by decide)
set_option maxHeartbeats 8000000 in
set_option maxRecDepth 100000 in
theorem law_case_22 {p : Program} {l : Launch} {e : Env} {s : State} {m : MethodId} {below : List Frame} {meth : Method} {c : Code} {D : va_G} {cI cJ cZ cP cS : ClassId} {b : Nat} {xs_ : Nat → Int32} (x0 xs j0 k0 w0 rd mv xr z0 jp jc zl zs kz kp kc kzl kzs wk wl wc wp ri rl mb m0 mrf mki mpa mta mla msl mco mhe mso msi msh mce mca mwo mnu mte mwa mke mma mth mtr : Nat) (sh el : Nat → Nat) (fw_ fn_ : Nat → Int32) (C0 : lw_At p s m meth c b 6 xs_) (hK : va_K D vwCl (zKT cI cJ cZ cP cS) s) (hN : zN s) (hZ : zSt (fun q : Nat => s.heap.size ≤ q) s s.heap) (H : Heap) (locs : List Loc) (hP : va_P D vwCl (zLW cI cJ cZ cP cS x0 xs j0 k0 w0 rd mv xr z0 jp jc zl zs kz kp kc kzl kzs wk wl wc wp ri rl mb m0 mrf mki mpa mta mla msl mco mhe mso msi msh mce mca mwo mnu mte mwa mke mma mth mtr sh el fw_ fn_) H) (hD : va_D (fun q : Nat => s.heap.size ≤ q) (zLW cI cJ cZ cP cS x0 xs j0 k0 w0 rd mv xr z0 jp jc zl zs kz kp kc kzl kzs wk wl wc wp ri rl mb m0 mrf mki mpa mta mla msl mco mhe mso msi msh mce mca mwo mnu mte mwa mke mma mth mtr sh el fw_ fn_)) (hS : va_S (fun q : Nat => s.heap.size ≤ q) s.heap H locs) (ls : Array Slot) (hl : lv_has ls 4 [(3, .int 0), (2, .ref m0), (1, .ref x0), (0, .ref b)]) : W p l e room_1 s m #[Value.ref b] below meth c H locs 100 10000 (lw_Z below #[Value.ref b] s) (F0 m 993 ls []) := by
  obtain ⟨hx, hb, hr, hml, hown0, hts, hX, hbl, hlocks, hgv⟩ := id C0
  have hown : s.vm.findClass RL = some m.cls := hown0
  have hA : ∀ q : Nat, s.heap.size ≤ q → (fun q : Nat => s.heap.size ≤ q) q := fun _ h => h
  have hbA : ¬ (fun q : Nat => s.heap.size ≤ q) b := Nat.not_le.mpr hbl
  replace hP : va_P D vwCl ((x0, .inr (7, [.ref xs, .ref j0, .ref k0, .ref w0, .ref rd, .ref mv, .ref xr, .int 0, .int (-1)])) :: (xs, .inl (cS, 8, .inr (.inr (.inr (.inr (zS sh)))))) :: (j0, .inr (0, [.ref z0, .ref jp, .ref jc, .int 0, .int 0, .int 0, .int 60, .int 0, .int 1])) :: (z0, .inr (6, [.ref zl, .ref zs, .int 20, .int 0, .int 3])) :: (zl, .inl (cZ, 40, .inl (fun _ => 0))) :: (zs, .inl (cI, 40, .inl (fun _ => 0))) :: (jp, .inl (cP, 8, .inr (.inr (.inr (.inr (fun _ => none)))))) :: (jc, .inl (cI, 3, .inl (zL3 5 10 50))) :: (k0, .inr (0, [.ref kz, .ref kp, .ref kc, .int 0, .int 0, .int 0, .int 60, .int 0, .int 1])) :: (kz, .inr (6, [.ref kzl, .ref kzs, .int 20, .int 0, .int 3])) :: (kzl, .inl (cZ, 40, .inl (fun _ => 0))) :: (kzs, .inl (cI, 40, .inl (fun _ => 0))) :: (kp, .inl (cP, 8, .inr (.inr (.inr (.inr (fun _ => none)))))) :: (kc, .inl (cI, 3, .inl (zL3 5 10 50))) :: (w0, .inr (5, [.ref wk, .ref wl, .ref wc, .ref wp, .int 0, .int 0, .int 0])) :: (wk, .inl (cI, 125, .inl (fun _ => 0))) :: (wl, .inl (cI, 125, .inl (fun _ => 0))) :: (wc, .inl (cI, 3, .inl (fun _ => 0))) :: (wp, .inl (cP, 8, .inr (.inr (.inr (.inr (fun _ => none)))))) :: (rd, .inr (3, [.ref ri, .ref rl, .int 0, .int 0, .int 0, .int (-1), .int 0, .int 0])) :: (ri, .inl (cI, 132, .inl (fun _ => 0))) :: (rl, .inl (cI, 160, .inl (fun _ => 0))) :: (mv, .inr (1, [.ref mb, .int 0, .int 0, .int 0, .int 0])) :: (mb, .inl (cI, 20, .inl (fun _ => 0))) :: (xr, .inl (cI, 8, .inl (fun _ => 0))) :: ((sh 0), .inr (4, [.ref (el 0), .int (-1), .int 0])) :: ((el 0), .inl (cJ, 160, .inr (.inl (fun _ => 0)))) :: ((sh 1), .inr (4, [.ref (el 1), .int (-1), .int 0])) :: ((el 1), .inl (cJ, 160, .inr (.inl (fun _ => 0)))) :: ((sh 2), .inr (4, [.ref (el 2), .int (-1), .int 0])) :: ((el 2), .inl (cJ, 160, .inr (.inl (fun _ => 0)))) :: ((sh 3), .inr (4, [.ref (el 3), .int (-1), .int 0])) :: ((el 3), .inl (cJ, 160, .inr (.inl (fun _ => 0)))) :: ((sh 4), .inr (4, [.ref (el 4), .int (-1), .int 0])) :: ((el 4), .inl (cJ, 160, .inr (.inl (fun _ => 0)))) :: ((sh 5), .inr (4, [.ref (el 5), .int (-1), .int 0])) :: ((el 5), .inl (cJ, 160, .inr (.inl (fun _ => 0)))) :: ((sh 6), .inr (4, [.ref (el 6), .int (-1), .int 0])) :: ((el 6), .inl (cJ, 160, .inr (.inl (fun _ => 0)))) :: ((sh 7), .inr (4, [.ref (el 7), .int (-1), .int 0])) :: ((el 7), .inl (cJ, 160, .inr (.inl (fun _ => 0)))) :: (m0, .inr (8, (.int 0 :: .int 20 :: .int 0 :: .int 0 :: .int 0 :: .int 60 :: .int 0 :: .int 3 :: .int 1 :: .int (-1) :: .ref mrf :: .ref mki :: .ref mpa :: .ref mta :: .ref mla :: .ref msl :: .ref mco :: .ref mhe :: .ref mso :: .ref msi :: .ref msh :: .ref mce :: .ref mca :: .ref mwo :: .ref mnu :: .ref mte :: .int 0 :: .int 0 :: .int 0 :: .int 0 :: .int 0 :: .ref mwa :: .ref mke :: .ref mma :: .ref mth :: .ref mtr :: .int 0 :: .int 0 :: []))) :: (mrf, .inl (cI, 8, .inl (fun _ => 0))) :: (mki, .inl (cI, 8, .inl (fun _ => 0))) :: (mpa, .inl (cI, 8, .inl (fun _ => 0))) :: (mta, .inl (cI, 8, .inl (fun _ => 0))) :: (mla, .inl (cI, 40, .inl (fun _ => 0))) :: (msl, .inl (cI, 40, .inl (fun _ => 0))) :: (mco, .inl (cI, 3, .inl (zL3 5 10 50))) :: (mhe, .inl (cI, 8, .inl (fun _ => 0))) :: (mso, .inl (cI, 8, .inl (fun _ => 0))) :: (msi, .inl (cI, 8, .inl (fun _ => 0))) :: (msh, .inl (cI, 8, .inl (fun _ => 0))) :: (mce, .inl (cJ, 1280, .inr (.inl (fun _ => 0)))) :: (mca, .inl (cJ, 160, .inr (.inl (fun _ => 0)))) :: (mwo, .inl (cI, 64, .inl fw_)) :: (mnu, .inl (cI, 10, .inl fn_)) :: (mte, .inl (cI, 3, .inl (fun _ => 0))) :: (mwa, .inl (cI, 130, .inl (fun _ => 0))) :: (mke, .inl (cI, 130, .inl (fun _ => 0))) :: (mma, .inl (cI, 3, .inl (fun _ => 0))) :: (mth, .inl (cI, 3, .inl (fun _ => 0))) :: (mtr, .inl (cI, 20, .inl (fun _ => 0))) :: []) H := hP
  replace hD : va_D _ ((x0, .inr (7, [.ref xs, .ref j0, .ref k0, .ref w0, .ref rd, .ref mv, .ref xr, .int 0, .int (-1)])) :: (xs, .inl (cS, 8, .inr (.inr (.inr (.inr (zS sh)))))) :: (j0, .inr (0, [.ref z0, .ref jp, .ref jc, .int 0, .int 0, .int 0, .int 60, .int 0, .int 1])) :: (z0, .inr (6, [.ref zl, .ref zs, .int 20, .int 0, .int 3])) :: (zl, .inl (cZ, 40, .inl (fun _ => 0))) :: (zs, .inl (cI, 40, .inl (fun _ => 0))) :: (jp, .inl (cP, 8, .inr (.inr (.inr (.inr (fun _ => none)))))) :: (jc, .inl (cI, 3, .inl (zL3 5 10 50))) :: (k0, .inr (0, [.ref kz, .ref kp, .ref kc, .int 0, .int 0, .int 0, .int 60, .int 0, .int 1])) :: (kz, .inr (6, [.ref kzl, .ref kzs, .int 20, .int 0, .int 3])) :: (kzl, .inl (cZ, 40, .inl (fun _ => 0))) :: (kzs, .inl (cI, 40, .inl (fun _ => 0))) :: (kp, .inl (cP, 8, .inr (.inr (.inr (.inr (fun _ => none)))))) :: (kc, .inl (cI, 3, .inl (zL3 5 10 50))) :: (w0, .inr (5, [.ref wk, .ref wl, .ref wc, .ref wp, .int 0, .int 0, .int 0])) :: (wk, .inl (cI, 125, .inl (fun _ => 0))) :: (wl, .inl (cI, 125, .inl (fun _ => 0))) :: (wc, .inl (cI, 3, .inl (fun _ => 0))) :: (wp, .inl (cP, 8, .inr (.inr (.inr (.inr (fun _ => none)))))) :: (rd, .inr (3, [.ref ri, .ref rl, .int 0, .int 0, .int 0, .int (-1), .int 0, .int 0])) :: (ri, .inl (cI, 132, .inl (fun _ => 0))) :: (rl, .inl (cI, 160, .inl (fun _ => 0))) :: (mv, .inr (1, [.ref mb, .int 0, .int 0, .int 0, .int 0])) :: (mb, .inl (cI, 20, .inl (fun _ => 0))) :: (xr, .inl (cI, 8, .inl (fun _ => 0))) :: ((sh 0), .inr (4, [.ref (el 0), .int (-1), .int 0])) :: ((el 0), .inl (cJ, 160, .inr (.inl (fun _ => 0)))) :: ((sh 1), .inr (4, [.ref (el 1), .int (-1), .int 0])) :: ((el 1), .inl (cJ, 160, .inr (.inl (fun _ => 0)))) :: ((sh 2), .inr (4, [.ref (el 2), .int (-1), .int 0])) :: ((el 2), .inl (cJ, 160, .inr (.inl (fun _ => 0)))) :: ((sh 3), .inr (4, [.ref (el 3), .int (-1), .int 0])) :: ((el 3), .inl (cJ, 160, .inr (.inl (fun _ => 0)))) :: ((sh 4), .inr (4, [.ref (el 4), .int (-1), .int 0])) :: ((el 4), .inl (cJ, 160, .inr (.inl (fun _ => 0)))) :: ((sh 5), .inr (4, [.ref (el 5), .int (-1), .int 0])) :: ((el 5), .inl (cJ, 160, .inr (.inl (fun _ => 0)))) :: ((sh 6), .inr (4, [.ref (el 6), .int (-1), .int 0])) :: ((el 6), .inl (cJ, 160, .inr (.inl (fun _ => 0)))) :: ((sh 7), .inr (4, [.ref (el 7), .int (-1), .int 0])) :: ((el 7), .inl (cJ, 160, .inr (.inl (fun _ => 0)))) :: (m0, .inr (8, (.int 0 :: .int 20 :: .int 0 :: .int 0 :: .int 0 :: .int 60 :: .int 0 :: .int 3 :: .int 1 :: .int (-1) :: .ref mrf :: .ref mki :: .ref mpa :: .ref mta :: .ref mla :: .ref msl :: .ref mco :: .ref mhe :: .ref mso :: .ref msi :: .ref msh :: .ref mce :: .ref mca :: .ref mwo :: .ref mnu :: .ref mte :: .int 0 :: .int 0 :: .int 0 :: .int 0 :: .int 0 :: .ref mwa :: .ref mke :: .ref mma :: .ref mth :: .ref mtr :: .int 0 :: .int 0 :: []))) :: (mrf, .inl (cI, 8, .inl (fun _ => 0))) :: (mki, .inl (cI, 8, .inl (fun _ => 0))) :: (mpa, .inl (cI, 8, .inl (fun _ => 0))) :: (mta, .inl (cI, 8, .inl (fun _ => 0))) :: (mla, .inl (cI, 40, .inl (fun _ => 0))) :: (msl, .inl (cI, 40, .inl (fun _ => 0))) :: (mco, .inl (cI, 3, .inl (zL3 5 10 50))) :: (mhe, .inl (cI, 8, .inl (fun _ => 0))) :: (mso, .inl (cI, 8, .inl (fun _ => 0))) :: (msi, .inl (cI, 8, .inl (fun _ => 0))) :: (msh, .inl (cI, 8, .inl (fun _ => 0))) :: (mce, .inl (cJ, 1280, .inr (.inl (fun _ => 0)))) :: (mca, .inl (cJ, 160, .inr (.inl (fun _ => 0)))) :: (mwo, .inl (cI, 64, .inl fw_)) :: (mnu, .inl (cI, 10, .inl fn_)) :: (mte, .inl (cI, 3, .inl (fun _ => 0))) :: (mwa, .inl (cI, 130, .inl (fun _ => 0))) :: (mke, .inl (cI, 130, .inl (fun _ => 0))) :: (mma, .inl (cI, 3, .inl (fun _ => 0))) :: (mth, .inl (cI, 3, .inl (fun _ => 0))) :: (mtr, .inl (cI, 20, .inl (fun _ => 0))) :: []) := hD
  refine lv_aload_n hx hb dL_law_993 rfl (lv_at hl 2 rfl) ?_
  refine lv_aload_n hx hb dL_law_994 rfl (lv_at hl 3 rfl) ?_
  refine lv_iload_n hx hb dL_law_995 rfl (lv_at hl 0 rfl) ?_
  refine lv_iconst (v := 1) hx hb dL_law_996 (by decide) ?_
  refine lv_iadd hx hb dL_law_997 ?_
  refine lv_topi (fun y_1 ey_1 => ?_)
  obtain rfl : y_1 = 1 := ey_1.trans (by decide)
  refine va_sld hx hb hX hbl hbA hS (zf_in (by decide) (by decide)) dL_law_998 ?_
  refine lv_topi (fun a_3 ea_3 => ?_)
  skip
  refine zw_V (As := [.int a_3]) (rest := []) (wr := ((m0, .inr (8, (.int 0 :: .int 20 :: .int 0 :: .int 0 :: .int 0 :: .int 60 :: .int 0 :: .int 3 :: .int 1 :: .int (-1) :: .ref mrf :: .ref mki :: .ref mpa :: .ref mta :: .ref mla :: .ref msl :: .ref mco :: .ref mhe :: .ref mso :: .ref msi :: .ref msh :: .ref mce :: .ref mca :: .ref mwo :: .ref mnu :: .ref mte :: .int 0 :: .int 0 :: .int 0 :: .int 0 :: .int 0 :: .ref mwa :: .ref mke :: .ref mma :: .ref mth :: .ref mtr :: .int 0 :: .int 0 :: []))) :: (mrf, .inl (cI, 8, .inl (fun _ => 0))) :: (mki, .inl (cI, 8, .inl (fun _ => 0))) :: (mpa, .inl (cI, 8, .inl (fun _ => 0))) :: (mta, .inl (cI, 8, .inl (fun _ => 0))) :: (mla, .inl (cI, 40, .inl (fun _ => 0))) :: (msl, .inl (cI, 40, .inl (fun _ => 0))) :: (mco, .inl (cI, 3, .inl (zL3 5 10 50))) :: (mhe, .inl (cI, 8, .inl (fun _ => 0))) :: (mso, .inl (cI, 8, .inl (fun _ => 0))) :: (msi, .inl (cI, 8, .inl (fun _ => 0))) :: (msh, .inl (cI, 8, .inl (fun _ => 0))) :: (mce, .inl (cJ, 1280, .inr (.inl (fun _ => 0)))) :: (mca, .inl (cJ, 160, .inr (.inl (fun _ => 0)))) :: (mwo, .inl (cI, 64, .inl fw_)) :: (mnu, .inl (cI, 10, .inl fn_)) :: (mte, .inl (cI, 3, .inl (fun _ => 0))) :: (mwa, .inl (cI, 130, .inl (fun _ => 0))) :: (mke, .inl (cI, 130, .inl (fun _ => 0))) :: (mma, .inl (cI, 3, .inl (fun _ => 0))) :: (mth, .inl (cI, 3, .inl (fun _ => 0))) :: (mtr, .inl (cI, 20, .inl (fun _ => 0))) :: [])) ⟨hx, hb, hml, hown, hts⟩ (c_strong l D cI cJ cZ cP cS x0 xs j0 k0 w0 rd mv xr jp jc z0 zl zs (a_3)  H.size) (cwV 1 hts gq_111 rfl rfl rfl (by decide +kernel) ⟨Nat.le_of_ble_eq_true rfl, Nat.le_of_ble_eq_true rfl⟩) hK hN (hZ.kept hS) hP hD hS hA [0, 24, 2, 3, 4] [41, 42, 43, 44, 45, 46, 47, 48, 49, 50, 51, 52, 53, 54, 55, 56, 57, 58, 59, 60, 61, 62] rfl rfl (by decide) (by decide) (by decide) (va_recv hK hP (ci := 7) (q0 := 0) rfl rfl) rfl hl.1 rfl (Nat.le_of_ble_eq_true rfl) dL_law_999 ⟨Nat.le_of_ble_eq_true rfl, Nat.le_of_ble_eq_true rfl⟩ (fun r_4 u_5 H locs hr_4 hP hD hS => ?_)
  replace hP : va_P D vwCl ((m0, .inr (8, (.int 0 :: .int 20 :: .int 0 :: .int 0 :: .int 0 :: .int 60 :: .int 0 :: .int 3 :: .int 1 :: .int (-1) :: .ref mrf :: .ref mki :: .ref mpa :: .ref mta :: .ref mla :: .ref msl :: .ref mco :: .ref mhe :: .ref mso :: .ref msi :: .ref msh :: .ref mce :: .ref mca :: .ref mwo :: .ref mnu :: .ref mte :: .int 0 :: .int 0 :: .int 0 :: .int 0 :: .int 0 :: .ref mwa :: .ref mke :: .ref mma :: .ref mth :: .ref mtr :: .int 0 :: .int 0 :: []))) :: (mrf, .inl (cI, 8, .inl (fun _ => 0))) :: (mki, .inl (cI, 8, .inl (fun _ => 0))) :: (mpa, .inl (cI, 8, .inl (fun _ => 0))) :: (mta, .inl (cI, 8, .inl (fun _ => 0))) :: (mla, .inl (cI, 40, .inl (fun _ => 0))) :: (msl, .inl (cI, 40, .inl (fun _ => 0))) :: (mco, .inl (cI, 3, .inl (zL3 5 10 50))) :: (mhe, .inl (cI, 8, .inl (fun _ => 0))) :: (mso, .inl (cI, 8, .inl (fun _ => 0))) :: (msi, .inl (cI, 8, .inl (fun _ => 0))) :: (msh, .inl (cI, 8, .inl (fun _ => 0))) :: (mce, .inl (cJ, 1280, .inr (.inl (fun _ => 0)))) :: (mca, .inl (cJ, 160, .inr (.inl (fun _ => 0)))) :: (mwo, .inl (cI, 64, .inl fw_)) :: (mnu, .inl (cI, 10, .inl fn_)) :: (mte, .inl (cI, 3, .inl (fun _ => 0))) :: (mwa, .inl (cI, 130, .inl (fun _ => 0))) :: (mke, .inl (cI, 130, .inl (fun _ => 0))) :: (mma, .inl (cI, 3, .inl (fun _ => 0))) :: (mth, .inl (cI, 3, .inl (fun _ => 0))) :: (mtr, .inl (cI, 20, .inl (fun _ => 0))) :: []) H := hP
  replace hD : va_D _ ((m0, .inr (8, (.int 0 :: .int 20 :: .int 0 :: .int 0 :: .int 0 :: .int 60 :: .int 0 :: .int 3 :: .int 1 :: .int (-1) :: .ref mrf :: .ref mki :: .ref mpa :: .ref mta :: .ref mla :: .ref msl :: .ref mco :: .ref mhe :: .ref mso :: .ref msi :: .ref msh :: .ref mce :: .ref mca :: .ref mwo :: .ref mnu :: .ref mte :: .int 0 :: .int 0 :: .int 0 :: .int 0 :: .int 0 :: .ref mwa :: .ref mke :: .ref mma :: .ref mth :: .ref mtr :: .int 0 :: .int 0 :: []))) :: (mrf, .inl (cI, 8, .inl (fun _ => 0))) :: (mki, .inl (cI, 8, .inl (fun _ => 0))) :: (mpa, .inl (cI, 8, .inl (fun _ => 0))) :: (mta, .inl (cI, 8, .inl (fun _ => 0))) :: (mla, .inl (cI, 40, .inl (fun _ => 0))) :: (msl, .inl (cI, 40, .inl (fun _ => 0))) :: (mco, .inl (cI, 3, .inl (zL3 5 10 50))) :: (mhe, .inl (cI, 8, .inl (fun _ => 0))) :: (mso, .inl (cI, 8, .inl (fun _ => 0))) :: (msi, .inl (cI, 8, .inl (fun _ => 0))) :: (msh, .inl (cI, 8, .inl (fun _ => 0))) :: (mce, .inl (cJ, 1280, .inr (.inl (fun _ => 0)))) :: (mca, .inl (cJ, 160, .inr (.inl (fun _ => 0)))) :: (mwo, .inl (cI, 64, .inl fw_)) :: (mnu, .inl (cI, 10, .inl fn_)) :: (mte, .inl (cI, 3, .inl (fun _ => 0))) :: (mwa, .inl (cI, 130, .inl (fun _ => 0))) :: (mke, .inl (cI, 130, .inl (fun _ => 0))) :: (mma, .inl (cI, 3, .inl (fun _ => 0))) :: (mth, .inl (cI, 3, .inl (fun _ => 0))) :: (mtr, .inl (cI, 20, .inl (fun _ => 0))) :: []) := hD
  rcases hr_4 with ⟨rfl, g_6⟩ | ⟨rfl, g_7⟩ | ⟨rfl, g_8⟩ | ⟨rfl, g_9⟩ | ⟨rfl, g_10⟩
  · refine lv_aload_n hx hb dL_law_1002 rfl (lv_at hl 1 rfl) ?_
    refine lv_aload_n hx hb dL_law_1003 rfl (lv_at hl 3 rfl) ?_
    refine lv_iload_n hx hb dL_law_1004 rfl (lv_at hl 0 rfl) ?_
    refine lv_iconst (v := 1) hx hb dL_law_1005 (by decide) ?_
    refine lv_iadd hx hb dL_law_1006 ?_
    refine lv_topi (fun y_11 ey_11 => ?_)
    obtain rfl : y_11 = 1 := ey_11.trans (by decide)
    refine va_sld hx hb hX hbl hbA hS (zf_in (by decide) (by decide)) dL_law_1007 ?_
    refine lv_topi (fun y_12 ey_12 => ?_)
    obtain rfl : a_3 = y_12 := ea_3.trans ey_12.symm
    skip
    refine zw_V (As := [.int a_3]) (rest := [.int (-5)]) (wr := [(mki, .inl (cI, 8, .inl (fun _ => 0))), (mpa, .inl (cI, 8, .inl (fun _ => 0))), (mta, .inl (cI, 8, .inl (fun _ => 0))), (msl, .inl (cI, 40, .inl (fun _ => 0))), (mco, .inl (cI, 3, .inl (zL3 5 10 50))), (mhe, .inl (cI, 8, .inl (fun _ => 0))), (mso, .inl (cI, 8, .inl (fun _ => 0))), (msi, .inl (cI, 8, .inl (fun _ => 0))), (msh, .inl (cI, 8, .inl (fun _ => 0))), (mce, .inl (cJ, 1280, .inr (.inl (fun _ => 0)))), (mca, .inl (cJ, 160, .inr (.inl (fun _ => 0)))), (mwo, .inl (cI, 64, .inl fw_)), (mnu, .inl (cI, 10, .inl fn_)), (mte, .inl (cI, 3, .inl (fun _ => 0))), (mwa, .inl (cI, 130, .inl (fun _ => 0))), (mke, .inl (cI, 130, .inl (fun _ => 0))), (mtr, .inl (cI, 20, .inl (fun _ => 0)))]) ⟨hx, hb, hml, hown, hts⟩ (c_M_strong l D cI cJ cZ cP cS m0 mrf mki mpa mta mla msl mco mhe mso msi msh mce mca mwo mnu mte mwa mke mma mth mtr (a_3)  H.size) (cwV 1 hts gq_114 rfl rfl rfl (by decide +kernel) ⟨Nat.le_of_ble_eq_true rfl, Nat.le_of_ble_eq_true rfl⟩) hK hN (hZ.kept hS) hP hD hS hA [0, 1, 5, 19, 20] [2, 3, 4, 6, 7, 8, 9, 10, 11, 12, 13, 14, 15, 16, 17, 18, 21] rfl rfl (by decide) (by decide) (by decide) (va_recv hK hP (ci := 8) (q0 := 0) rfl rfl) rfl hl.1 rfl (Nat.le_of_ble_eq_true rfl) dL_law_1008 ⟨Nat.le_of_ble_eq_true rfl, Nat.le_of_ble_eq_true rfl⟩ (fun r_13 u_14 H locs hr_13 hP hD hS => ?_)
    replace hP : va_P D vwCl [(mki, .inl (cI, 8, .inl (fun _ => 0))), (mpa, .inl (cI, 8, .inl (fun _ => 0))), (mta, .inl (cI, 8, .inl (fun _ => 0))), (msl, .inl (cI, 40, .inl (fun _ => 0))), (mco, .inl (cI, 3, .inl (zL3 5 10 50))), (mhe, .inl (cI, 8, .inl (fun _ => 0))), (mso, .inl (cI, 8, .inl (fun _ => 0))), (msi, .inl (cI, 8, .inl (fun _ => 0))), (msh, .inl (cI, 8, .inl (fun _ => 0))), (mce, .inl (cJ, 1280, .inr (.inl (fun _ => 0)))), (mca, .inl (cJ, 160, .inr (.inl (fun _ => 0)))), (mwo, .inl (cI, 64, .inl fw_)), (mnu, .inl (cI, 10, .inl fn_)), (mte, .inl (cI, 3, .inl (fun _ => 0))), (mwa, .inl (cI, 130, .inl (fun _ => 0))), (mke, .inl (cI, 130, .inl (fun _ => 0))), (mtr, .inl (cI, 20, .inl (fun _ => 0)))] H := hP
    replace hD : va_D _ [(mki, .inl (cI, 8, .inl (fun _ => 0))), (mpa, .inl (cI, 8, .inl (fun _ => 0))), (mta, .inl (cI, 8, .inl (fun _ => 0))), (msl, .inl (cI, 40, .inl (fun _ => 0))), (mco, .inl (cI, 3, .inl (zL3 5 10 50))), (mhe, .inl (cI, 8, .inl (fun _ => 0))), (mso, .inl (cI, 8, .inl (fun _ => 0))), (msi, .inl (cI, 8, .inl (fun _ => 0))), (msh, .inl (cI, 8, .inl (fun _ => 0))), (mce, .inl (cJ, 1280, .inr (.inl (fun _ => 0)))), (mca, .inl (cJ, 160, .inr (.inl (fun _ => 0)))), (mwo, .inl (cI, 64, .inl fw_)), (mnu, .inl (cI, 10, .inl fn_)), (mte, .inl (cI, 3, .inl (fun _ => 0))), (mwa, .inl (cI, 130, .inl (fun _ => 0))), (mke, .inl (cI, 130, .inl (fun _ => 0))), (mtr, .inl (cI, 20, .inl (fun _ => 0)))] := hD
    rcases hr_13 with ⟨rfl, g_15⟩ | ⟨rfl, g_16⟩ | ⟨rfl, g_17⟩ | ⟨rfl, g_18⟩ | ⟨rfl, g_19⟩
    · refine lv_icmp_eq (tgt := 1371) hx hb dL_law_1011 (by decide) (fun c_20 => ?_) (fun c_20 => ?_)
      · refine lv_iinc (v := 6) (lv' := [(3, .int 6), (2, .ref m0), (1, .ref x0), (0, .ref b)]) hx hb dL_law_1371 hl (k := 0) rfl (by decide) (by decide) rfl (fun ls hl => ?_)
        refine lv_goto (tgt := 18) hx hb dL_law_1374 (by decide) ?_
        refine lv_iload_n hx hb dL_law_18 rfl (lv_at hl 0 rfl) ?_
        refine lv_aload_n hx hb dL_law_19 rfl (lv_at hl 3 rfl) ?_
        refine va_slen hx hb hX hbl hbA hS dL_law_20 ?_
        refine lv_topi (fun y_21 ey_21 => ?_)
        obtain rfl : y_21 = 6 := ey_21.trans (by decide)
        refine lv_bipush (v := 6) hx hb dL_law_21 (by decide) ?_
        refine lv_isub hx hb dL_law_23 ?_
        refine lv_topi (fun y_22 ey_22 => ?_)
        obtain rfl : y_22 = 0 := ey_22.trans (by decide)
        refine lv_icmp_gt (tgt := 1377) hx hb dL_law_24 (by decide) (fun c_23 => ?_) (fun c_23 => ?_)
        · refine lv_iconst (v := 1) hx hb dL_law_1377 (by decide) ?_
          refine va_forget (fun q hq => hS.2.2 q hq) ?_
          refine W.widen (k := 600000) (n := 7302250) (Nat.le_of_ble_eq_true rfl) (Nat.le_of_ble_eq_true rfl) ?_
          exact lw_ret hx hb hr hlocks dL_law_1378
        · exact absurd c_23 (by decide)
      · exact absurd c_20 (by decide)
    · refine lv_icmp_eq (tgt := 1371) hx hb dL_law_1011 (by decide) (fun c_24 => ?_) (fun c_24 => ?_)
      · exact absurd c_24 (by decide)
      · refine lv_iconst (v := 0) hx hb dL_law_1014 (by decide) ?_
        exfalso; omega
    · refine lv_icmp_eq (tgt := 1371) hx hb dL_law_1011 (by decide) (fun c_25 => ?_) (fun c_25 => ?_)
      · exact absurd c_25 (by decide)
      · refine lv_iconst (v := 0) hx hb dL_law_1014 (by decide) ?_
        exfalso; omega
    · refine lv_icmp_eq (tgt := 1371) hx hb dL_law_1011 (by decide) (fun c_26 => ?_) (fun c_26 => ?_)
      · exact absurd c_26 (by decide)
      · refine lv_iconst (v := 0) hx hb dL_law_1014 (by decide) ?_
        exfalso; omega
    · refine lv_icmp_eq (tgt := 1371) hx hb dL_law_1011 (by decide) (fun c_27 => ?_) (fun c_27 => ?_)
      · exact absurd c_27 (by decide)
      · refine lv_iconst (v := 0) hx hb dL_law_1014 (by decide) ?_
        exfalso; omega
  · refine lv_aload_n hx hb dL_law_1002 rfl (lv_at hl 1 rfl) ?_
    refine lv_aload_n hx hb dL_law_1003 rfl (lv_at hl 3 rfl) ?_
    refine lv_iload_n hx hb dL_law_1004 rfl (lv_at hl 0 rfl) ?_
    refine lv_iconst (v := 1) hx hb dL_law_1005 (by decide) ?_
    refine lv_iadd hx hb dL_law_1006 ?_
    refine lv_topi (fun y_28 ey_28 => ?_)
    obtain rfl : y_28 = 1 := ey_28.trans (by decide)
    refine va_sld hx hb hX hbl hbA hS (zf_in (by decide) (by decide)) dL_law_1007 ?_
    refine lv_topi (fun y_29 ey_29 => ?_)
    obtain rfl : a_3 = y_29 := ea_3.trans ey_29.symm
    skip
    refine zw_V (As := [.int a_3]) (rest := [.int 1]) (wr := [(mki, .inl (cI, 8, .inl (fun _ => 0))), (mpa, .inl (cI, 8, .inl (fun _ => 0))), (mta, .inl (cI, 8, .inl (fun _ => 0))), (msl, .inl (cI, 40, .inl (fun _ => 0))), (mco, .inl (cI, 3, .inl (zL3 5 10 50))), (mhe, .inl (cI, 8, .inl (fun _ => 0))), (mso, .inl (cI, 8, .inl (fun _ => 0))), (msi, .inl (cI, 8, .inl (fun _ => 0))), (msh, .inl (cI, 8, .inl (fun _ => 0))), (mce, .inl (cJ, 1280, .inr (.inl (fun _ => 0)))), (mca, .inl (cJ, 160, .inr (.inl (fun _ => 0)))), (mwo, .inl (cI, 64, .inl fw_)), (mnu, .inl (cI, 10, .inl fn_)), (mte, .inl (cI, 3, .inl (fun _ => 0))), (mwa, .inl (cI, 130, .inl (fun _ => 0))), (mke, .inl (cI, 130, .inl (fun _ => 0))), (mtr, .inl (cI, 20, .inl (fun _ => 0)))]) ⟨hx, hb, hml, hown, hts⟩ (c_M_strong l D cI cJ cZ cP cS m0 mrf mki mpa mta mla msl mco mhe mso msi msh mce mca mwo mnu mte mwa mke mma mth mtr (a_3)  H.size) (cwV 1 hts gq_114 rfl rfl rfl (by decide +kernel) ⟨Nat.le_of_ble_eq_true rfl, Nat.le_of_ble_eq_true rfl⟩) hK hN (hZ.kept hS) hP hD hS hA [0, 1, 5, 19, 20] [2, 3, 4, 6, 7, 8, 9, 10, 11, 12, 13, 14, 15, 16, 17, 18, 21] rfl rfl (by decide) (by decide) (by decide) (va_recv hK hP (ci := 8) (q0 := 0) rfl rfl) rfl hl.1 rfl (Nat.le_of_ble_eq_true rfl) dL_law_1008 ⟨Nat.le_of_ble_eq_true rfl, Nat.le_of_ble_eq_true rfl⟩ (fun r_30 u_31 H locs hr_30 hP hD hS => ?_)
    replace hP : va_P D vwCl [(mki, .inl (cI, 8, .inl (fun _ => 0))), (mpa, .inl (cI, 8, .inl (fun _ => 0))), (mta, .inl (cI, 8, .inl (fun _ => 0))), (msl, .inl (cI, 40, .inl (fun _ => 0))), (mco, .inl (cI, 3, .inl (zL3 5 10 50))), (mhe, .inl (cI, 8, .inl (fun _ => 0))), (mso, .inl (cI, 8, .inl (fun _ => 0))), (msi, .inl (cI, 8, .inl (fun _ => 0))), (msh, .inl (cI, 8, .inl (fun _ => 0))), (mce, .inl (cJ, 1280, .inr (.inl (fun _ => 0)))), (mca, .inl (cJ, 160, .inr (.inl (fun _ => 0)))), (mwo, .inl (cI, 64, .inl fw_)), (mnu, .inl (cI, 10, .inl fn_)), (mte, .inl (cI, 3, .inl (fun _ => 0))), (mwa, .inl (cI, 130, .inl (fun _ => 0))), (mke, .inl (cI, 130, .inl (fun _ => 0))), (mtr, .inl (cI, 20, .inl (fun _ => 0)))] H := hP
    replace hD : va_D _ [(mki, .inl (cI, 8, .inl (fun _ => 0))), (mpa, .inl (cI, 8, .inl (fun _ => 0))), (mta, .inl (cI, 8, .inl (fun _ => 0))), (msl, .inl (cI, 40, .inl (fun _ => 0))), (mco, .inl (cI, 3, .inl (zL3 5 10 50))), (mhe, .inl (cI, 8, .inl (fun _ => 0))), (mso, .inl (cI, 8, .inl (fun _ => 0))), (msi, .inl (cI, 8, .inl (fun _ => 0))), (msh, .inl (cI, 8, .inl (fun _ => 0))), (mce, .inl (cJ, 1280, .inr (.inl (fun _ => 0)))), (mca, .inl (cJ, 160, .inr (.inl (fun _ => 0)))), (mwo, .inl (cI, 64, .inl fw_)), (mnu, .inl (cI, 10, .inl fn_)), (mte, .inl (cI, 3, .inl (fun _ => 0))), (mwa, .inl (cI, 130, .inl (fun _ => 0))), (mke, .inl (cI, 130, .inl (fun _ => 0))), (mtr, .inl (cI, 20, .inl (fun _ => 0)))] := hD
    rcases hr_30 with ⟨rfl, g_32⟩ | ⟨rfl, g_33⟩ | ⟨rfl, g_34⟩ | ⟨rfl, g_35⟩ | ⟨rfl, g_36⟩
    · exfalso; omega
    · refine lv_icmp_eq (tgt := 1371) hx hb dL_law_1011 (by decide) (fun c_37 => ?_) (fun c_37 => ?_)
      · refine lv_iinc (v := 6) (lv' := [(3, .int 6), (2, .ref m0), (1, .ref x0), (0, .ref b)]) hx hb dL_law_1371 hl (k := 0) rfl (by decide) (by decide) rfl (fun ls hl => ?_)
        refine lv_goto (tgt := 18) hx hb dL_law_1374 (by decide) ?_
        refine lv_iload_n hx hb dL_law_18 rfl (lv_at hl 0 rfl) ?_
        refine lv_aload_n hx hb dL_law_19 rfl (lv_at hl 3 rfl) ?_
        refine va_slen hx hb hX hbl hbA hS dL_law_20 ?_
        refine lv_topi (fun y_38 ey_38 => ?_)
        obtain rfl : y_38 = 6 := ey_38.trans (by decide)
        refine lv_bipush (v := 6) hx hb dL_law_21 (by decide) ?_
        refine lv_isub hx hb dL_law_23 ?_
        refine lv_topi (fun y_39 ey_39 => ?_)
        obtain rfl : y_39 = 0 := ey_39.trans (by decide)
        refine lv_icmp_gt (tgt := 1377) hx hb dL_law_24 (by decide) (fun c_40 => ?_) (fun c_40 => ?_)
        · refine lv_iconst (v := 1) hx hb dL_law_1377 (by decide) ?_
          refine va_forget (fun q hq => hS.2.2 q hq) ?_
          refine W.widen (k := 600000) (n := 7302250) (Nat.le_of_ble_eq_true rfl) (Nat.le_of_ble_eq_true rfl) ?_
          exact lw_ret hx hb hr hlocks dL_law_1378
        · exact absurd c_40 (by decide)
      · exact absurd c_37 (by decide)
    · exfalso; omega
    · exfalso; omega
    · exfalso; omega
  · refine lv_aload_n hx hb dL_law_1002 rfl (lv_at hl 1 rfl) ?_
    refine lv_aload_n hx hb dL_law_1003 rfl (lv_at hl 3 rfl) ?_
    refine lv_iload_n hx hb dL_law_1004 rfl (lv_at hl 0 rfl) ?_
    refine lv_iconst (v := 1) hx hb dL_law_1005 (by decide) ?_
    refine lv_iadd hx hb dL_law_1006 ?_
    refine lv_topi (fun y_41 ey_41 => ?_)
    obtain rfl : y_41 = 1 := ey_41.trans (by decide)
    refine va_sld hx hb hX hbl hbA hS (zf_in (by decide) (by decide)) dL_law_1007 ?_
    refine lv_topi (fun y_42 ey_42 => ?_)
    obtain rfl : a_3 = y_42 := ea_3.trans ey_42.symm
    skip
    refine zw_V (As := [.int a_3]) (rest := [.int 0]) (wr := [(mki, .inl (cI, 8, .inl (fun _ => 0))), (mpa, .inl (cI, 8, .inl (fun _ => 0))), (mta, .inl (cI, 8, .inl (fun _ => 0))), (msl, .inl (cI, 40, .inl (fun _ => 0))), (mco, .inl (cI, 3, .inl (zL3 5 10 50))), (mhe, .inl (cI, 8, .inl (fun _ => 0))), (mso, .inl (cI, 8, .inl (fun _ => 0))), (msi, .inl (cI, 8, .inl (fun _ => 0))), (msh, .inl (cI, 8, .inl (fun _ => 0))), (mce, .inl (cJ, 1280, .inr (.inl (fun _ => 0)))), (mca, .inl (cJ, 160, .inr (.inl (fun _ => 0)))), (mwo, .inl (cI, 64, .inl fw_)), (mnu, .inl (cI, 10, .inl fn_)), (mte, .inl (cI, 3, .inl (fun _ => 0))), (mwa, .inl (cI, 130, .inl (fun _ => 0))), (mke, .inl (cI, 130, .inl (fun _ => 0))), (mtr, .inl (cI, 20, .inl (fun _ => 0)))]) ⟨hx, hb, hml, hown, hts⟩ (c_M_strong l D cI cJ cZ cP cS m0 mrf mki mpa mta mla msl mco mhe mso msi msh mce mca mwo mnu mte mwa mke mma mth mtr (a_3)  H.size) (cwV 1 hts gq_114 rfl rfl rfl (by decide +kernel) ⟨Nat.le_of_ble_eq_true rfl, Nat.le_of_ble_eq_true rfl⟩) hK hN (hZ.kept hS) hP hD hS hA [0, 1, 5, 19, 20] [2, 3, 4, 6, 7, 8, 9, 10, 11, 12, 13, 14, 15, 16, 17, 18, 21] rfl rfl (by decide) (by decide) (by decide) (va_recv hK hP (ci := 8) (q0 := 0) rfl rfl) rfl hl.1 rfl (Nat.le_of_ble_eq_true rfl) dL_law_1008 ⟨Nat.le_of_ble_eq_true rfl, Nat.le_of_ble_eq_true rfl⟩ (fun r_43 u_44 H locs hr_43 hP hD hS => ?_)
    replace hP : va_P D vwCl [(mki, .inl (cI, 8, .inl (fun _ => 0))), (mpa, .inl (cI, 8, .inl (fun _ => 0))), (mta, .inl (cI, 8, .inl (fun _ => 0))), (msl, .inl (cI, 40, .inl (fun _ => 0))), (mco, .inl (cI, 3, .inl (zL3 5 10 50))), (mhe, .inl (cI, 8, .inl (fun _ => 0))), (mso, .inl (cI, 8, .inl (fun _ => 0))), (msi, .inl (cI, 8, .inl (fun _ => 0))), (msh, .inl (cI, 8, .inl (fun _ => 0))), (mce, .inl (cJ, 1280, .inr (.inl (fun _ => 0)))), (mca, .inl (cJ, 160, .inr (.inl (fun _ => 0)))), (mwo, .inl (cI, 64, .inl fw_)), (mnu, .inl (cI, 10, .inl fn_)), (mte, .inl (cI, 3, .inl (fun _ => 0))), (mwa, .inl (cI, 130, .inl (fun _ => 0))), (mke, .inl (cI, 130, .inl (fun _ => 0))), (mtr, .inl (cI, 20, .inl (fun _ => 0)))] H := hP
    replace hD : va_D _ [(mki, .inl (cI, 8, .inl (fun _ => 0))), (mpa, .inl (cI, 8, .inl (fun _ => 0))), (mta, .inl (cI, 8, .inl (fun _ => 0))), (msl, .inl (cI, 40, .inl (fun _ => 0))), (mco, .inl (cI, 3, .inl (zL3 5 10 50))), (mhe, .inl (cI, 8, .inl (fun _ => 0))), (mso, .inl (cI, 8, .inl (fun _ => 0))), (msi, .inl (cI, 8, .inl (fun _ => 0))), (msh, .inl (cI, 8, .inl (fun _ => 0))), (mce, .inl (cJ, 1280, .inr (.inl (fun _ => 0)))), (mca, .inl (cJ, 160, .inr (.inl (fun _ => 0)))), (mwo, .inl (cI, 64, .inl fw_)), (mnu, .inl (cI, 10, .inl fn_)), (mte, .inl (cI, 3, .inl (fun _ => 0))), (mwa, .inl (cI, 130, .inl (fun _ => 0))), (mke, .inl (cI, 130, .inl (fun _ => 0))), (mtr, .inl (cI, 20, .inl (fun _ => 0)))] := hD
    rcases hr_43 with ⟨rfl, g_45⟩ | ⟨rfl, g_46⟩ | ⟨rfl, g_47⟩ | ⟨rfl, g_48⟩ | ⟨rfl, g_49⟩
    · exfalso; omega
    · exfalso; omega
    · refine lv_icmp_eq (tgt := 1371) hx hb dL_law_1011 (by decide) (fun c_50 => ?_) (fun c_50 => ?_)
      · refine lv_iinc (v := 6) (lv' := [(3, .int 6), (2, .ref m0), (1, .ref x0), (0, .ref b)]) hx hb dL_law_1371 hl (k := 0) rfl (by decide) (by decide) rfl (fun ls hl => ?_)
        refine lv_goto (tgt := 18) hx hb dL_law_1374 (by decide) ?_
        refine lv_iload_n hx hb dL_law_18 rfl (lv_at hl 0 rfl) ?_
        refine lv_aload_n hx hb dL_law_19 rfl (lv_at hl 3 rfl) ?_
        refine va_slen hx hb hX hbl hbA hS dL_law_20 ?_
        refine lv_topi (fun y_51 ey_51 => ?_)
        obtain rfl : y_51 = 6 := ey_51.trans (by decide)
        refine lv_bipush (v := 6) hx hb dL_law_21 (by decide) ?_
        refine lv_isub hx hb dL_law_23 ?_
        refine lv_topi (fun y_52 ey_52 => ?_)
        obtain rfl : y_52 = 0 := ey_52.trans (by decide)
        refine lv_icmp_gt (tgt := 1377) hx hb dL_law_24 (by decide) (fun c_53 => ?_) (fun c_53 => ?_)
        · refine lv_iconst (v := 1) hx hb dL_law_1377 (by decide) ?_
          refine va_forget (fun q hq => hS.2.2 q hq) ?_
          refine W.widen (k := 600000) (n := 7302250) (Nat.le_of_ble_eq_true rfl) (Nat.le_of_ble_eq_true rfl) ?_
          exact lw_ret hx hb hr hlocks dL_law_1378
        · exact absurd c_53 (by decide)
      · exact absurd c_50 (by decide)
    · exfalso; omega
    · exfalso; omega
  · refine lv_aload_n hx hb dL_law_1002 rfl (lv_at hl 1 rfl) ?_
    refine lv_aload_n hx hb dL_law_1003 rfl (lv_at hl 3 rfl) ?_
    refine lv_iload_n hx hb dL_law_1004 rfl (lv_at hl 0 rfl) ?_
    refine lv_iconst (v := 1) hx hb dL_law_1005 (by decide) ?_
    refine lv_iadd hx hb dL_law_1006 ?_
    refine lv_topi (fun y_54 ey_54 => ?_)
    obtain rfl : y_54 = 1 := ey_54.trans (by decide)
    refine va_sld hx hb hX hbl hbA hS (zf_in (by decide) (by decide)) dL_law_1007 ?_
    refine lv_topi (fun y_55 ey_55 => ?_)
    obtain rfl : a_3 = y_55 := ea_3.trans ey_55.symm
    skip
    refine zw_V (As := [.int a_3]) (rest := [.int 14]) (wr := [(mki, .inl (cI, 8, .inl (fun _ => 0))), (mpa, .inl (cI, 8, .inl (fun _ => 0))), (mta, .inl (cI, 8, .inl (fun _ => 0))), (msl, .inl (cI, 40, .inl (fun _ => 0))), (mco, .inl (cI, 3, .inl (zL3 5 10 50))), (mhe, .inl (cI, 8, .inl (fun _ => 0))), (mso, .inl (cI, 8, .inl (fun _ => 0))), (msi, .inl (cI, 8, .inl (fun _ => 0))), (msh, .inl (cI, 8, .inl (fun _ => 0))), (mce, .inl (cJ, 1280, .inr (.inl (fun _ => 0)))), (mca, .inl (cJ, 160, .inr (.inl (fun _ => 0)))), (mwo, .inl (cI, 64, .inl fw_)), (mnu, .inl (cI, 10, .inl fn_)), (mte, .inl (cI, 3, .inl (fun _ => 0))), (mwa, .inl (cI, 130, .inl (fun _ => 0))), (mke, .inl (cI, 130, .inl (fun _ => 0))), (mtr, .inl (cI, 20, .inl (fun _ => 0)))]) ⟨hx, hb, hml, hown, hts⟩ (c_M_strong l D cI cJ cZ cP cS m0 mrf mki mpa mta mla msl mco mhe mso msi msh mce mca mwo mnu mte mwa mke mma mth mtr (a_3)  H.size) (cwV 1 hts gq_114 rfl rfl rfl (by decide +kernel) ⟨Nat.le_of_ble_eq_true rfl, Nat.le_of_ble_eq_true rfl⟩) hK hN (hZ.kept hS) hP hD hS hA [0, 1, 5, 19, 20] [2, 3, 4, 6, 7, 8, 9, 10, 11, 12, 13, 14, 15, 16, 17, 18, 21] rfl rfl (by decide) (by decide) (by decide) (va_recv hK hP (ci := 8) (q0 := 0) rfl rfl) rfl hl.1 rfl (Nat.le_of_ble_eq_true rfl) dL_law_1008 ⟨Nat.le_of_ble_eq_true rfl, Nat.le_of_ble_eq_true rfl⟩ (fun r_56 u_57 H locs hr_56 hP hD hS => ?_)
    replace hP : va_P D vwCl [(mki, .inl (cI, 8, .inl (fun _ => 0))), (mpa, .inl (cI, 8, .inl (fun _ => 0))), (mta, .inl (cI, 8, .inl (fun _ => 0))), (msl, .inl (cI, 40, .inl (fun _ => 0))), (mco, .inl (cI, 3, .inl (zL3 5 10 50))), (mhe, .inl (cI, 8, .inl (fun _ => 0))), (mso, .inl (cI, 8, .inl (fun _ => 0))), (msi, .inl (cI, 8, .inl (fun _ => 0))), (msh, .inl (cI, 8, .inl (fun _ => 0))), (mce, .inl (cJ, 1280, .inr (.inl (fun _ => 0)))), (mca, .inl (cJ, 160, .inr (.inl (fun _ => 0)))), (mwo, .inl (cI, 64, .inl fw_)), (mnu, .inl (cI, 10, .inl fn_)), (mte, .inl (cI, 3, .inl (fun _ => 0))), (mwa, .inl (cI, 130, .inl (fun _ => 0))), (mke, .inl (cI, 130, .inl (fun _ => 0))), (mtr, .inl (cI, 20, .inl (fun _ => 0)))] H := hP
    replace hD : va_D _ [(mki, .inl (cI, 8, .inl (fun _ => 0))), (mpa, .inl (cI, 8, .inl (fun _ => 0))), (mta, .inl (cI, 8, .inl (fun _ => 0))), (msl, .inl (cI, 40, .inl (fun _ => 0))), (mco, .inl (cI, 3, .inl (zL3 5 10 50))), (mhe, .inl (cI, 8, .inl (fun _ => 0))), (mso, .inl (cI, 8, .inl (fun _ => 0))), (msi, .inl (cI, 8, .inl (fun _ => 0))), (msh, .inl (cI, 8, .inl (fun _ => 0))), (mce, .inl (cJ, 1280, .inr (.inl (fun _ => 0)))), (mca, .inl (cJ, 160, .inr (.inl (fun _ => 0)))), (mwo, .inl (cI, 64, .inl fw_)), (mnu, .inl (cI, 10, .inl fn_)), (mte, .inl (cI, 3, .inl (fun _ => 0))), (mwa, .inl (cI, 130, .inl (fun _ => 0))), (mke, .inl (cI, 130, .inl (fun _ => 0))), (mtr, .inl (cI, 20, .inl (fun _ => 0)))] := hD
    rcases hr_56 with ⟨rfl, g_58⟩ | ⟨rfl, g_59⟩ | ⟨rfl, g_60⟩ | ⟨rfl, g_61⟩ | ⟨rfl, g_62⟩
    · exfalso; omega
    · exfalso; omega
    · exfalso; omega
    · refine lv_icmp_eq (tgt := 1371) hx hb dL_law_1011 (by decide) (fun c_63 => ?_) (fun c_63 => ?_)
      · refine lv_iinc (v := 6) (lv' := [(3, .int 6), (2, .ref m0), (1, .ref x0), (0, .ref b)]) hx hb dL_law_1371 hl (k := 0) rfl (by decide) (by decide) rfl (fun ls hl => ?_)
        refine lv_goto (tgt := 18) hx hb dL_law_1374 (by decide) ?_
        refine lv_iload_n hx hb dL_law_18 rfl (lv_at hl 0 rfl) ?_
        refine lv_aload_n hx hb dL_law_19 rfl (lv_at hl 3 rfl) ?_
        refine va_slen hx hb hX hbl hbA hS dL_law_20 ?_
        refine lv_topi (fun y_64 ey_64 => ?_)
        obtain rfl : y_64 = 6 := ey_64.trans (by decide)
        refine lv_bipush (v := 6) hx hb dL_law_21 (by decide) ?_
        refine lv_isub hx hb dL_law_23 ?_
        refine lv_topi (fun y_65 ey_65 => ?_)
        obtain rfl : y_65 = 0 := ey_65.trans (by decide)
        refine lv_icmp_gt (tgt := 1377) hx hb dL_law_24 (by decide) (fun c_66 => ?_) (fun c_66 => ?_)
        · refine lv_iconst (v := 1) hx hb dL_law_1377 (by decide) ?_
          refine va_forget (fun q hq => hS.2.2 q hq) ?_
          refine W.widen (k := 600000) (n := 7302250) (Nat.le_of_ble_eq_true rfl) (Nat.le_of_ble_eq_true rfl) ?_
          exact lw_ret hx hb hr hlocks dL_law_1378
        · exact absurd c_66 (by decide)
      · exact absurd c_63 (by decide)
    · exfalso; omega
  · refine lv_aload_n hx hb dL_law_1002 rfl (lv_at hl 1 rfl) ?_
    refine lv_aload_n hx hb dL_law_1003 rfl (lv_at hl 3 rfl) ?_
    refine lv_iload_n hx hb dL_law_1004 rfl (lv_at hl 0 rfl) ?_
    refine lv_iconst (v := 1) hx hb dL_law_1005 (by decide) ?_
    refine lv_iadd hx hb dL_law_1006 ?_
    refine lv_topi (fun y_67 ey_67 => ?_)
    obtain rfl : y_67 = 1 := ey_67.trans (by decide)
    refine va_sld hx hb hX hbl hbA hS (zf_in (by decide) (by decide)) dL_law_1007 ?_
    refine lv_topi (fun y_68 ey_68 => ?_)
    obtain rfl : a_3 = y_68 := ea_3.trans ey_68.symm
    skip
    refine zw_V (As := [.int a_3]) (rest := [.int 0]) (wr := [(mki, .inl (cI, 8, .inl (fun _ => 0))), (mpa, .inl (cI, 8, .inl (fun _ => 0))), (mta, .inl (cI, 8, .inl (fun _ => 0))), (msl, .inl (cI, 40, .inl (fun _ => 0))), (mco, .inl (cI, 3, .inl (zL3 5 10 50))), (mhe, .inl (cI, 8, .inl (fun _ => 0))), (mso, .inl (cI, 8, .inl (fun _ => 0))), (msi, .inl (cI, 8, .inl (fun _ => 0))), (msh, .inl (cI, 8, .inl (fun _ => 0))), (mce, .inl (cJ, 1280, .inr (.inl (fun _ => 0)))), (mca, .inl (cJ, 160, .inr (.inl (fun _ => 0)))), (mwo, .inl (cI, 64, .inl fw_)), (mnu, .inl (cI, 10, .inl fn_)), (mte, .inl (cI, 3, .inl (fun _ => 0))), (mwa, .inl (cI, 130, .inl (fun _ => 0))), (mke, .inl (cI, 130, .inl (fun _ => 0))), (mtr, .inl (cI, 20, .inl (fun _ => 0)))]) ⟨hx, hb, hml, hown, hts⟩ (c_M_strong l D cI cJ cZ cP cS m0 mrf mki mpa mta mla msl mco mhe mso msi msh mce mca mwo mnu mte mwa mke mma mth mtr (a_3)  H.size) (cwV 1 hts gq_114 rfl rfl rfl (by decide +kernel) ⟨Nat.le_of_ble_eq_true rfl, Nat.le_of_ble_eq_true rfl⟩) hK hN (hZ.kept hS) hP hD hS hA [0, 1, 5, 19, 20] [2, 3, 4, 6, 7, 8, 9, 10, 11, 12, 13, 14, 15, 16, 17, 18, 21] rfl rfl (by decide) (by decide) (by decide) (va_recv hK hP (ci := 8) (q0 := 0) rfl rfl) rfl hl.1 rfl (Nat.le_of_ble_eq_true rfl) dL_law_1008 ⟨Nat.le_of_ble_eq_true rfl, Nat.le_of_ble_eq_true rfl⟩ (fun r_69 u_70 H locs hr_69 hP hD hS => ?_)
    replace hP : va_P D vwCl [(mki, .inl (cI, 8, .inl (fun _ => 0))), (mpa, .inl (cI, 8, .inl (fun _ => 0))), (mta, .inl (cI, 8, .inl (fun _ => 0))), (msl, .inl (cI, 40, .inl (fun _ => 0))), (mco, .inl (cI, 3, .inl (zL3 5 10 50))), (mhe, .inl (cI, 8, .inl (fun _ => 0))), (mso, .inl (cI, 8, .inl (fun _ => 0))), (msi, .inl (cI, 8, .inl (fun _ => 0))), (msh, .inl (cI, 8, .inl (fun _ => 0))), (mce, .inl (cJ, 1280, .inr (.inl (fun _ => 0)))), (mca, .inl (cJ, 160, .inr (.inl (fun _ => 0)))), (mwo, .inl (cI, 64, .inl fw_)), (mnu, .inl (cI, 10, .inl fn_)), (mte, .inl (cI, 3, .inl (fun _ => 0))), (mwa, .inl (cI, 130, .inl (fun _ => 0))), (mke, .inl (cI, 130, .inl (fun _ => 0))), (mtr, .inl (cI, 20, .inl (fun _ => 0)))] H := hP
    replace hD : va_D _ [(mki, .inl (cI, 8, .inl (fun _ => 0))), (mpa, .inl (cI, 8, .inl (fun _ => 0))), (mta, .inl (cI, 8, .inl (fun _ => 0))), (msl, .inl (cI, 40, .inl (fun _ => 0))), (mco, .inl (cI, 3, .inl (zL3 5 10 50))), (mhe, .inl (cI, 8, .inl (fun _ => 0))), (mso, .inl (cI, 8, .inl (fun _ => 0))), (msi, .inl (cI, 8, .inl (fun _ => 0))), (msh, .inl (cI, 8, .inl (fun _ => 0))), (mce, .inl (cJ, 1280, .inr (.inl (fun _ => 0)))), (mca, .inl (cJ, 160, .inr (.inl (fun _ => 0)))), (mwo, .inl (cI, 64, .inl fw_)), (mnu, .inl (cI, 10, .inl fn_)), (mte, .inl (cI, 3, .inl (fun _ => 0))), (mwa, .inl (cI, 130, .inl (fun _ => 0))), (mke, .inl (cI, 130, .inl (fun _ => 0))), (mtr, .inl (cI, 20, .inl (fun _ => 0)))] := hD
    rcases hr_69 with ⟨rfl, g_71⟩ | ⟨rfl, g_72⟩ | ⟨rfl, g_73⟩ | ⟨rfl, g_74⟩ | ⟨rfl, g_75⟩
    · exfalso; omega
    · exfalso; omega
    · exfalso; omega
    · exfalso; omega
    · refine lv_icmp_eq (tgt := 1371) hx hb dL_law_1011 (by decide) (fun c_76 => ?_) (fun c_76 => ?_)
      · refine lv_iinc (v := 6) (lv' := [(3, .int 6), (2, .ref m0), (1, .ref x0), (0, .ref b)]) hx hb dL_law_1371 hl (k := 0) rfl (by decide) (by decide) rfl (fun ls hl => ?_)
        refine lv_goto (tgt := 18) hx hb dL_law_1374 (by decide) ?_
        refine lv_iload_n hx hb dL_law_18 rfl (lv_at hl 0 rfl) ?_
        refine lv_aload_n hx hb dL_law_19 rfl (lv_at hl 3 rfl) ?_
        refine va_slen hx hb hX hbl hbA hS dL_law_20 ?_
        refine lv_topi (fun y_77 ey_77 => ?_)
        obtain rfl : y_77 = 6 := ey_77.trans (by decide)
        refine lv_bipush (v := 6) hx hb dL_law_21 (by decide) ?_
        refine lv_isub hx hb dL_law_23 ?_
        refine lv_topi (fun y_78 ey_78 => ?_)
        obtain rfl : y_78 = 0 := ey_78.trans (by decide)
        refine lv_icmp_gt (tgt := 1377) hx hb dL_law_24 (by decide) (fun c_79 => ?_) (fun c_79 => ?_)
        · refine lv_iconst (v := 1) hx hb dL_law_1377 (by decide) ?_
          refine va_forget (fun q hq => hS.2.2 q hq) ?_
          refine W.widen (k := 600000) (n := 7302250) (Nat.le_of_ble_eq_true rfl) (Nat.le_of_ble_eq_true rfl) ?_
          exact lw_ret hx hb hr hlocks dL_law_1378
        · exact absurd c_79 (by decide)
      · exact absurd c_76 (by decide)
set_option maxHeartbeats 8000000 in
set_option maxRecDepth 100000 in
theorem law_case_23 {p : Program} {l : Launch} {e : Env} {s : State} {m : MethodId} {below : List Frame} {meth : Method} {c : Code} {D : va_G} {cI cJ cZ cP cS : ClassId} {b : Nat} {xs_ : Nat → Int32} (x0 xs j0 k0 w0 rd mv xr z0 jp jc zl zs kz kp kc kzl kzs wk wl wc wp ri rl mb m0 mrf mki mpa mta mla msl mco mhe mso msi msh mce mca mwo mnu mte mwa mke mma mth mtr : Nat) (sh el : Nat → Nat) (fw_ fn_ : Nat → Int32) (C0 : lw_At p s m meth c b 6 xs_) (hK : va_K D vwCl (zKT cI cJ cZ cP cS) s) (hN : zN s) (hZ : zSt (fun q : Nat => s.heap.size ≤ q) s s.heap) (H : Heap) (locs : List Loc) (hP : va_P D vwCl (zLW cI cJ cZ cP cS x0 xs j0 k0 w0 rd mv xr z0 jp jc zl zs kz kp kc kzl kzs wk wl wc wp ri rl mb m0 mrf mki mpa mta mla msl mco mhe mso msi msh mce mca mwo mnu mte mwa mke mma mth mtr sh el fw_ fn_) H) (hD : va_D (fun q : Nat => s.heap.size ≤ q) (zLW cI cJ cZ cP cS x0 xs j0 k0 w0 rd mv xr z0 jp jc zl zs kz kp kc kzl kzs wk wl wc wp ri rl mb m0 mrf mki mpa mta mla msl mco mhe mso msi msh mce mca mwo mnu mte mwa mke mma mth mtr sh el fw_ fn_)) (hS : va_S (fun q : Nat => s.heap.size ≤ q) s.heap H locs) (ls : Array Slot) (hl : lv_has ls 4 [(3, .int 0), (2, .ref m0), (1, .ref x0), (0, .ref b)]) : W p l e room_1 s m #[Value.ref b] below meth c H locs 100 10000 (lw_Z below #[Value.ref b] s) (F0 m 1016 ls []) := by
  obtain ⟨hx, hb, hr, hml, hown0, hts, hX, hbl, hlocks, hgv⟩ := id C0
  have hown : s.vm.findClass RL = some m.cls := hown0
  have hA : ∀ q : Nat, s.heap.size ≤ q → (fun q : Nat => s.heap.size ≤ q) q := fun _ h => h
  have hbA : ¬ (fun q : Nat => s.heap.size ≤ q) b := Nat.not_le.mpr hbl
  replace hP : va_P D vwCl ((x0, .inr (7, [.ref xs, .ref j0, .ref k0, .ref w0, .ref rd, .ref mv, .ref xr, .int 0, .int (-1)])) :: (xs, .inl (cS, 8, .inr (.inr (.inr (.inr (zS sh)))))) :: (j0, .inr (0, [.ref z0, .ref jp, .ref jc, .int 0, .int 0, .int 0, .int 60, .int 0, .int 1])) :: (z0, .inr (6, [.ref zl, .ref zs, .int 20, .int 0, .int 3])) :: (zl, .inl (cZ, 40, .inl (fun _ => 0))) :: (zs, .inl (cI, 40, .inl (fun _ => 0))) :: (jp, .inl (cP, 8, .inr (.inr (.inr (.inr (fun _ => none)))))) :: (jc, .inl (cI, 3, .inl (zL3 5 10 50))) :: (k0, .inr (0, [.ref kz, .ref kp, .ref kc, .int 0, .int 0, .int 0, .int 60, .int 0, .int 1])) :: (kz, .inr (6, [.ref kzl, .ref kzs, .int 20, .int 0, .int 3])) :: (kzl, .inl (cZ, 40, .inl (fun _ => 0))) :: (kzs, .inl (cI, 40, .inl (fun _ => 0))) :: (kp, .inl (cP, 8, .inr (.inr (.inr (.inr (fun _ => none)))))) :: (kc, .inl (cI, 3, .inl (zL3 5 10 50))) :: (w0, .inr (5, [.ref wk, .ref wl, .ref wc, .ref wp, .int 0, .int 0, .int 0])) :: (wk, .inl (cI, 125, .inl (fun _ => 0))) :: (wl, .inl (cI, 125, .inl (fun _ => 0))) :: (wc, .inl (cI, 3, .inl (fun _ => 0))) :: (wp, .inl (cP, 8, .inr (.inr (.inr (.inr (fun _ => none)))))) :: (rd, .inr (3, [.ref ri, .ref rl, .int 0, .int 0, .int 0, .int (-1), .int 0, .int 0])) :: (ri, .inl (cI, 132, .inl (fun _ => 0))) :: (rl, .inl (cI, 160, .inl (fun _ => 0))) :: (mv, .inr (1, [.ref mb, .int 0, .int 0, .int 0, .int 0])) :: (mb, .inl (cI, 20, .inl (fun _ => 0))) :: (xr, .inl (cI, 8, .inl (fun _ => 0))) :: ((sh 0), .inr (4, [.ref (el 0), .int (-1), .int 0])) :: ((el 0), .inl (cJ, 160, .inr (.inl (fun _ => 0)))) :: ((sh 1), .inr (4, [.ref (el 1), .int (-1), .int 0])) :: ((el 1), .inl (cJ, 160, .inr (.inl (fun _ => 0)))) :: ((sh 2), .inr (4, [.ref (el 2), .int (-1), .int 0])) :: ((el 2), .inl (cJ, 160, .inr (.inl (fun _ => 0)))) :: ((sh 3), .inr (4, [.ref (el 3), .int (-1), .int 0])) :: ((el 3), .inl (cJ, 160, .inr (.inl (fun _ => 0)))) :: ((sh 4), .inr (4, [.ref (el 4), .int (-1), .int 0])) :: ((el 4), .inl (cJ, 160, .inr (.inl (fun _ => 0)))) :: ((sh 5), .inr (4, [.ref (el 5), .int (-1), .int 0])) :: ((el 5), .inl (cJ, 160, .inr (.inl (fun _ => 0)))) :: ((sh 6), .inr (4, [.ref (el 6), .int (-1), .int 0])) :: ((el 6), .inl (cJ, 160, .inr (.inl (fun _ => 0)))) :: ((sh 7), .inr (4, [.ref (el 7), .int (-1), .int 0])) :: ((el 7), .inl (cJ, 160, .inr (.inl (fun _ => 0)))) :: (m0, .inr (8, (.int 0 :: .int 20 :: .int 0 :: .int 0 :: .int 0 :: .int 60 :: .int 0 :: .int 3 :: .int 1 :: .int (-1) :: .ref mrf :: .ref mki :: .ref mpa :: .ref mta :: .ref mla :: .ref msl :: .ref mco :: .ref mhe :: .ref mso :: .ref msi :: .ref msh :: .ref mce :: .ref mca :: .ref mwo :: .ref mnu :: .ref mte :: .int 0 :: .int 0 :: .int 0 :: .int 0 :: .int 0 :: .ref mwa :: .ref mke :: .ref mma :: .ref mth :: .ref mtr :: .int 0 :: .int 0 :: []))) :: (mrf, .inl (cI, 8, .inl (fun _ => 0))) :: (mki, .inl (cI, 8, .inl (fun _ => 0))) :: (mpa, .inl (cI, 8, .inl (fun _ => 0))) :: (mta, .inl (cI, 8, .inl (fun _ => 0))) :: (mla, .inl (cI, 40, .inl (fun _ => 0))) :: (msl, .inl (cI, 40, .inl (fun _ => 0))) :: (mco, .inl (cI, 3, .inl (zL3 5 10 50))) :: (mhe, .inl (cI, 8, .inl (fun _ => 0))) :: (mso, .inl (cI, 8, .inl (fun _ => 0))) :: (msi, .inl (cI, 8, .inl (fun _ => 0))) :: (msh, .inl (cI, 8, .inl (fun _ => 0))) :: (mce, .inl (cJ, 1280, .inr (.inl (fun _ => 0)))) :: (mca, .inl (cJ, 160, .inr (.inl (fun _ => 0)))) :: (mwo, .inl (cI, 64, .inl fw_)) :: (mnu, .inl (cI, 10, .inl fn_)) :: (mte, .inl (cI, 3, .inl (fun _ => 0))) :: (mwa, .inl (cI, 130, .inl (fun _ => 0))) :: (mke, .inl (cI, 130, .inl (fun _ => 0))) :: (mma, .inl (cI, 3, .inl (fun _ => 0))) :: (mth, .inl (cI, 3, .inl (fun _ => 0))) :: (mtr, .inl (cI, 20, .inl (fun _ => 0))) :: []) H := hP
  replace hD : va_D _ ((x0, .inr (7, [.ref xs, .ref j0, .ref k0, .ref w0, .ref rd, .ref mv, .ref xr, .int 0, .int (-1)])) :: (xs, .inl (cS, 8, .inr (.inr (.inr (.inr (zS sh)))))) :: (j0, .inr (0, [.ref z0, .ref jp, .ref jc, .int 0, .int 0, .int 0, .int 60, .int 0, .int 1])) :: (z0, .inr (6, [.ref zl, .ref zs, .int 20, .int 0, .int 3])) :: (zl, .inl (cZ, 40, .inl (fun _ => 0))) :: (zs, .inl (cI, 40, .inl (fun _ => 0))) :: (jp, .inl (cP, 8, .inr (.inr (.inr (.inr (fun _ => none)))))) :: (jc, .inl (cI, 3, .inl (zL3 5 10 50))) :: (k0, .inr (0, [.ref kz, .ref kp, .ref kc, .int 0, .int 0, .int 0, .int 60, .int 0, .int 1])) :: (kz, .inr (6, [.ref kzl, .ref kzs, .int 20, .int 0, .int 3])) :: (kzl, .inl (cZ, 40, .inl (fun _ => 0))) :: (kzs, .inl (cI, 40, .inl (fun _ => 0))) :: (kp, .inl (cP, 8, .inr (.inr (.inr (.inr (fun _ => none)))))) :: (kc, .inl (cI, 3, .inl (zL3 5 10 50))) :: (w0, .inr (5, [.ref wk, .ref wl, .ref wc, .ref wp, .int 0, .int 0, .int 0])) :: (wk, .inl (cI, 125, .inl (fun _ => 0))) :: (wl, .inl (cI, 125, .inl (fun _ => 0))) :: (wc, .inl (cI, 3, .inl (fun _ => 0))) :: (wp, .inl (cP, 8, .inr (.inr (.inr (.inr (fun _ => none)))))) :: (rd, .inr (3, [.ref ri, .ref rl, .int 0, .int 0, .int 0, .int (-1), .int 0, .int 0])) :: (ri, .inl (cI, 132, .inl (fun _ => 0))) :: (rl, .inl (cI, 160, .inl (fun _ => 0))) :: (mv, .inr (1, [.ref mb, .int 0, .int 0, .int 0, .int 0])) :: (mb, .inl (cI, 20, .inl (fun _ => 0))) :: (xr, .inl (cI, 8, .inl (fun _ => 0))) :: ((sh 0), .inr (4, [.ref (el 0), .int (-1), .int 0])) :: ((el 0), .inl (cJ, 160, .inr (.inl (fun _ => 0)))) :: ((sh 1), .inr (4, [.ref (el 1), .int (-1), .int 0])) :: ((el 1), .inl (cJ, 160, .inr (.inl (fun _ => 0)))) :: ((sh 2), .inr (4, [.ref (el 2), .int (-1), .int 0])) :: ((el 2), .inl (cJ, 160, .inr (.inl (fun _ => 0)))) :: ((sh 3), .inr (4, [.ref (el 3), .int (-1), .int 0])) :: ((el 3), .inl (cJ, 160, .inr (.inl (fun _ => 0)))) :: ((sh 4), .inr (4, [.ref (el 4), .int (-1), .int 0])) :: ((el 4), .inl (cJ, 160, .inr (.inl (fun _ => 0)))) :: ((sh 5), .inr (4, [.ref (el 5), .int (-1), .int 0])) :: ((el 5), .inl (cJ, 160, .inr (.inl (fun _ => 0)))) :: ((sh 6), .inr (4, [.ref (el 6), .int (-1), .int 0])) :: ((el 6), .inl (cJ, 160, .inr (.inl (fun _ => 0)))) :: ((sh 7), .inr (4, [.ref (el 7), .int (-1), .int 0])) :: ((el 7), .inl (cJ, 160, .inr (.inl (fun _ => 0)))) :: (m0, .inr (8, (.int 0 :: .int 20 :: .int 0 :: .int 0 :: .int 0 :: .int 60 :: .int 0 :: .int 3 :: .int 1 :: .int (-1) :: .ref mrf :: .ref mki :: .ref mpa :: .ref mta :: .ref mla :: .ref msl :: .ref mco :: .ref mhe :: .ref mso :: .ref msi :: .ref msh :: .ref mce :: .ref mca :: .ref mwo :: .ref mnu :: .ref mte :: .int 0 :: .int 0 :: .int 0 :: .int 0 :: .int 0 :: .ref mwa :: .ref mke :: .ref mma :: .ref mth :: .ref mtr :: .int 0 :: .int 0 :: []))) :: (mrf, .inl (cI, 8, .inl (fun _ => 0))) :: (mki, .inl (cI, 8, .inl (fun _ => 0))) :: (mpa, .inl (cI, 8, .inl (fun _ => 0))) :: (mta, .inl (cI, 8, .inl (fun _ => 0))) :: (mla, .inl (cI, 40, .inl (fun _ => 0))) :: (msl, .inl (cI, 40, .inl (fun _ => 0))) :: (mco, .inl (cI, 3, .inl (zL3 5 10 50))) :: (mhe, .inl (cI, 8, .inl (fun _ => 0))) :: (mso, .inl (cI, 8, .inl (fun _ => 0))) :: (msi, .inl (cI, 8, .inl (fun _ => 0))) :: (msh, .inl (cI, 8, .inl (fun _ => 0))) :: (mce, .inl (cJ, 1280, .inr (.inl (fun _ => 0)))) :: (mca, .inl (cJ, 160, .inr (.inl (fun _ => 0)))) :: (mwo, .inl (cI, 64, .inl fw_)) :: (mnu, .inl (cI, 10, .inl fn_)) :: (mte, .inl (cI, 3, .inl (fun _ => 0))) :: (mwa, .inl (cI, 130, .inl (fun _ => 0))) :: (mke, .inl (cI, 130, .inl (fun _ => 0))) :: (mma, .inl (cI, 3, .inl (fun _ => 0))) :: (mth, .inl (cI, 3, .inl (fun _ => 0))) :: (mtr, .inl (cI, 20, .inl (fun _ => 0))) :: []) := hD
  refine lv_aload_n hx hb dL_law_1016 rfl (lv_at hl 2 rfl) ?_
  refine lv_aload_n hx hb dL_law_1017 rfl (lv_at hl 3 rfl) ?_
  refine lv_iload_n hx hb dL_law_1018 rfl (lv_at hl 0 rfl) ?_
  refine lv_iconst (v := 1) hx hb dL_law_1019 (by decide) ?_
  refine lv_iadd hx hb dL_law_1020 ?_
  refine lv_topi (fun y_1 ey_1 => ?_)
  obtain rfl : y_1 = 1 := ey_1.trans (by decide)
  refine va_sld hx hb hX hbl hbA hS (zf_in (by decide) (by decide)) dL_law_1021 ?_
  refine lv_topi (fun a_3 ea_3 => ?_)
  skip
  refine zw_V (As := [.int a_3]) (rest := []) (wr := ((m0, .inr (8, (.int 0 :: .int 20 :: .int 0 :: .int 0 :: .int 0 :: .int 60 :: .int 0 :: .int 3 :: .int 1 :: .int (-1) :: .ref mrf :: .ref mki :: .ref mpa :: .ref mta :: .ref mla :: .ref msl :: .ref mco :: .ref mhe :: .ref mso :: .ref msi :: .ref msh :: .ref mce :: .ref mca :: .ref mwo :: .ref mnu :: .ref mte :: .int 0 :: .int 0 :: .int 0 :: .int 0 :: .int 0 :: .ref mwa :: .ref mke :: .ref mma :: .ref mth :: .ref mtr :: .int 0 :: .int 0 :: []))) :: (mrf, .inl (cI, 8, .inl (fun _ => 0))) :: (mki, .inl (cI, 8, .inl (fun _ => 0))) :: (mpa, .inl (cI, 8, .inl (fun _ => 0))) :: (mta, .inl (cI, 8, .inl (fun _ => 0))) :: (mla, .inl (cI, 40, .inl (fun _ => 0))) :: (msl, .inl (cI, 40, .inl (fun _ => 0))) :: (mco, .inl (cI, 3, .inl (zL3 5 10 50))) :: (mhe, .inl (cI, 8, .inl (fun _ => 0))) :: (mso, .inl (cI, 8, .inl (fun _ => 0))) :: (msi, .inl (cI, 8, .inl (fun _ => 0))) :: (msh, .inl (cI, 8, .inl (fun _ => 0))) :: (mce, .inl (cJ, 1280, .inr (.inl (fun _ => 0)))) :: (mca, .inl (cJ, 160, .inr (.inl (fun _ => 0)))) :: (mwo, .inl (cI, 64, .inl fw_)) :: (mnu, .inl (cI, 10, .inl fn_)) :: (mte, .inl (cI, 3, .inl (fun _ => 0))) :: (mwa, .inl (cI, 130, .inl (fun _ => 0))) :: (mke, .inl (cI, 130, .inl (fun _ => 0))) :: (mma, .inl (cI, 3, .inl (fun _ => 0))) :: (mth, .inl (cI, 3, .inl (fun _ => 0))) :: (mtr, .inl (cI, 20, .inl (fun _ => 0))) :: [])) ⟨hx, hb, hml, hown, hts⟩ (c_catches l D cI cJ cZ cP cS x0 xs j0 k0 w0 rd mv xr jp jc z0 zl zs (a_3)  H.size) (cwV 1 hts gq_115 rfl rfl rfl (by decide +kernel) ⟨Nat.le_of_ble_eq_true rfl, Nat.le_of_ble_eq_true rfl⟩) hK hN (hZ.kept hS) hP hD hS hA [0, 24, 2, 3, 4, 5] [41, 42, 43, 44, 45, 46, 47, 48, 49, 50, 51, 52, 53, 54, 55, 56, 57, 58, 59, 60, 61, 62] rfl rfl (by decide) (by decide) (by decide) (va_recv hK hP (ci := 7) (q0 := 0) rfl rfl) rfl hl.1 rfl (Nat.le_of_ble_eq_true rfl) dL_law_1022 ⟨Nat.le_of_ble_eq_true rfl, Nat.le_of_ble_eq_true rfl⟩ (fun r_4 u_5 H locs hr_4 hP hD hS => ?_)
  replace hP : va_P D vwCl ((m0, .inr (8, (.int 0 :: .int 20 :: .int 0 :: .int 0 :: .int 0 :: .int 60 :: .int 0 :: .int 3 :: .int 1 :: .int (-1) :: .ref mrf :: .ref mki :: .ref mpa :: .ref mta :: .ref mla :: .ref msl :: .ref mco :: .ref mhe :: .ref mso :: .ref msi :: .ref msh :: .ref mce :: .ref mca :: .ref mwo :: .ref mnu :: .ref mte :: .int 0 :: .int 0 :: .int 0 :: .int 0 :: .int 0 :: .ref mwa :: .ref mke :: .ref mma :: .ref mth :: .ref mtr :: .int 0 :: .int 0 :: []))) :: (mrf, .inl (cI, 8, .inl (fun _ => 0))) :: (mki, .inl (cI, 8, .inl (fun _ => 0))) :: (mpa, .inl (cI, 8, .inl (fun _ => 0))) :: (mta, .inl (cI, 8, .inl (fun _ => 0))) :: (mla, .inl (cI, 40, .inl (fun _ => 0))) :: (msl, .inl (cI, 40, .inl (fun _ => 0))) :: (mco, .inl (cI, 3, .inl (zL3 5 10 50))) :: (mhe, .inl (cI, 8, .inl (fun _ => 0))) :: (mso, .inl (cI, 8, .inl (fun _ => 0))) :: (msi, .inl (cI, 8, .inl (fun _ => 0))) :: (msh, .inl (cI, 8, .inl (fun _ => 0))) :: (mce, .inl (cJ, 1280, .inr (.inl (fun _ => 0)))) :: (mca, .inl (cJ, 160, .inr (.inl (fun _ => 0)))) :: (mwo, .inl (cI, 64, .inl fw_)) :: (mnu, .inl (cI, 10, .inl fn_)) :: (mte, .inl (cI, 3, .inl (fun _ => 0))) :: (mwa, .inl (cI, 130, .inl (fun _ => 0))) :: (mke, .inl (cI, 130, .inl (fun _ => 0))) :: (mma, .inl (cI, 3, .inl (fun _ => 0))) :: (mth, .inl (cI, 3, .inl (fun _ => 0))) :: (mtr, .inl (cI, 20, .inl (fun _ => 0))) :: []) H := hP
  replace hD : va_D _ ((m0, .inr (8, (.int 0 :: .int 20 :: .int 0 :: .int 0 :: .int 0 :: .int 60 :: .int 0 :: .int 3 :: .int 1 :: .int (-1) :: .ref mrf :: .ref mki :: .ref mpa :: .ref mta :: .ref mla :: .ref msl :: .ref mco :: .ref mhe :: .ref mso :: .ref msi :: .ref msh :: .ref mce :: .ref mca :: .ref mwo :: .ref mnu :: .ref mte :: .int 0 :: .int 0 :: .int 0 :: .int 0 :: .int 0 :: .ref mwa :: .ref mke :: .ref mma :: .ref mth :: .ref mtr :: .int 0 :: .int 0 :: []))) :: (mrf, .inl (cI, 8, .inl (fun _ => 0))) :: (mki, .inl (cI, 8, .inl (fun _ => 0))) :: (mpa, .inl (cI, 8, .inl (fun _ => 0))) :: (mta, .inl (cI, 8, .inl (fun _ => 0))) :: (mla, .inl (cI, 40, .inl (fun _ => 0))) :: (msl, .inl (cI, 40, .inl (fun _ => 0))) :: (mco, .inl (cI, 3, .inl (zL3 5 10 50))) :: (mhe, .inl (cI, 8, .inl (fun _ => 0))) :: (mso, .inl (cI, 8, .inl (fun _ => 0))) :: (msi, .inl (cI, 8, .inl (fun _ => 0))) :: (msh, .inl (cI, 8, .inl (fun _ => 0))) :: (mce, .inl (cJ, 1280, .inr (.inl (fun _ => 0)))) :: (mca, .inl (cJ, 160, .inr (.inl (fun _ => 0)))) :: (mwo, .inl (cI, 64, .inl fw_)) :: (mnu, .inl (cI, 10, .inl fn_)) :: (mte, .inl (cI, 3, .inl (fun _ => 0))) :: (mwa, .inl (cI, 130, .inl (fun _ => 0))) :: (mke, .inl (cI, 130, .inl (fun _ => 0))) :: (mma, .inl (cI, 3, .inl (fun _ => 0))) :: (mth, .inl (cI, 3, .inl (fun _ => 0))) :: (mtr, .inl (cI, 20, .inl (fun _ => 0))) :: []) := hD
  rcases hr_4 with ⟨rfl, g_6⟩ | ⟨rfl, g_7⟩
  · refine lv_aload_n hx hb dL_law_1025 rfl (lv_at hl 1 rfl) ?_
    refine lv_aload_n hx hb dL_law_1026 rfl (lv_at hl 3 rfl) ?_
    refine lv_iload_n hx hb dL_law_1027 rfl (lv_at hl 0 rfl) ?_
    refine lv_iconst (v := 1) hx hb dL_law_1028 (by decide) ?_
    refine lv_iadd hx hb dL_law_1029 ?_
    refine lv_topi (fun y_8 ey_8 => ?_)
    obtain rfl : y_8 = 1 := ey_8.trans (by decide)
    refine va_sld hx hb hX hbl hbA hS (zf_in (by decide) (by decide)) dL_law_1030 ?_
    refine lv_topi (fun y_9 ey_9 => ?_)
    obtain rfl : a_3 = y_9 := ea_3.trans ey_9.symm
    skip
    refine zw_V (As := [.int a_3]) (rest := [.int (-5)]) (wr := [(mki, .inl (cI, 8, .inl (fun _ => 0))), (mpa, .inl (cI, 8, .inl (fun _ => 0))), (mta, .inl (cI, 8, .inl (fun _ => 0))), (mco, .inl (cI, 3, .inl (zL3 5 10 50))), (mhe, .inl (cI, 8, .inl (fun _ => 0))), (mso, .inl (cI, 8, .inl (fun _ => 0))), (msi, .inl (cI, 8, .inl (fun _ => 0))), (msh, .inl (cI, 8, .inl (fun _ => 0))), (mce, .inl (cJ, 1280, .inr (.inl (fun _ => 0)))), (mca, .inl (cJ, 160, .inr (.inl (fun _ => 0)))), (mwo, .inl (cI, 64, .inl fw_)), (mnu, .inl (cI, 10, .inl fn_)), (mte, .inl (cI, 3, .inl (fun _ => 0))), (mwa, .inl (cI, 130, .inl (fun _ => 0))), (mke, .inl (cI, 130, .inl (fun _ => 0))), (mma, .inl (cI, 3, .inl (fun _ => 0))), (mth, .inl (cI, 3, .inl (fun _ => 0))), (mtr, .inl (cI, 20, .inl (fun _ => 0)))]) ⟨hx, hb, hml, hown, hts⟩ (c_M_catches l D cI cJ cZ cP cS m0 mrf mki mpa mta mla msl mco mhe mso msi msh mce mca mwo mnu mte mwa mke mma mth mtr (a_3)  H.size) (cwV 1 hts gq_118 rfl rfl rfl (by decide +kernel) ⟨Nat.le_of_ble_eq_true rfl, Nat.le_of_ble_eq_true rfl⟩) hK hN (hZ.kept hS) hP hD hS hA [0, 1, 5, 6] [2, 3, 4, 7, 8, 9, 10, 11, 12, 13, 14, 15, 16, 17, 18, 19, 20, 21] rfl rfl (by decide) (by decide) (by decide) (va_recv hK hP (ci := 8) (q0 := 0) rfl rfl) rfl hl.1 rfl (Nat.le_of_ble_eq_true rfl) dL_law_1031 ⟨Nat.le_of_ble_eq_true rfl, Nat.le_of_ble_eq_true rfl⟩ (fun r_10 u_11 H locs hr_10 hP hD hS => ?_)
    replace hP : va_P D vwCl [(mki, .inl (cI, 8, .inl (fun _ => 0))), (mpa, .inl (cI, 8, .inl (fun _ => 0))), (mta, .inl (cI, 8, .inl (fun _ => 0))), (mco, .inl (cI, 3, .inl (zL3 5 10 50))), (mhe, .inl (cI, 8, .inl (fun _ => 0))), (mso, .inl (cI, 8, .inl (fun _ => 0))), (msi, .inl (cI, 8, .inl (fun _ => 0))), (msh, .inl (cI, 8, .inl (fun _ => 0))), (mce, .inl (cJ, 1280, .inr (.inl (fun _ => 0)))), (mca, .inl (cJ, 160, .inr (.inl (fun _ => 0)))), (mwo, .inl (cI, 64, .inl fw_)), (mnu, .inl (cI, 10, .inl fn_)), (mte, .inl (cI, 3, .inl (fun _ => 0))), (mwa, .inl (cI, 130, .inl (fun _ => 0))), (mke, .inl (cI, 130, .inl (fun _ => 0))), (mma, .inl (cI, 3, .inl (fun _ => 0))), (mth, .inl (cI, 3, .inl (fun _ => 0))), (mtr, .inl (cI, 20, .inl (fun _ => 0)))] H := hP
    replace hD : va_D _ [(mki, .inl (cI, 8, .inl (fun _ => 0))), (mpa, .inl (cI, 8, .inl (fun _ => 0))), (mta, .inl (cI, 8, .inl (fun _ => 0))), (mco, .inl (cI, 3, .inl (zL3 5 10 50))), (mhe, .inl (cI, 8, .inl (fun _ => 0))), (mso, .inl (cI, 8, .inl (fun _ => 0))), (msi, .inl (cI, 8, .inl (fun _ => 0))), (msh, .inl (cI, 8, .inl (fun _ => 0))), (mce, .inl (cJ, 1280, .inr (.inl (fun _ => 0)))), (mca, .inl (cJ, 160, .inr (.inl (fun _ => 0)))), (mwo, .inl (cI, 64, .inl fw_)), (mnu, .inl (cI, 10, .inl fn_)), (mte, .inl (cI, 3, .inl (fun _ => 0))), (mwa, .inl (cI, 130, .inl (fun _ => 0))), (mke, .inl (cI, 130, .inl (fun _ => 0))), (mma, .inl (cI, 3, .inl (fun _ => 0))), (mth, .inl (cI, 3, .inl (fun _ => 0))), (mtr, .inl (cI, 20, .inl (fun _ => 0)))] := hD
    rcases hr_10 with ⟨rfl, g_12, g_13⟩ | ⟨rfl, g_14, g_15⟩ | ⟨rfl, g_16⟩
    · refine lv_icmp_eq (tgt := 1371) hx hb dL_law_1034 (by decide) (fun c_17 => ?_) (fun c_17 => ?_)
      · refine lv_iinc (v := 6) (lv' := [(3, .int 6), (2, .ref m0), (1, .ref x0), (0, .ref b)]) hx hb dL_law_1371 hl (k := 0) rfl (by decide) (by decide) rfl (fun ls hl => ?_)
        refine lv_goto (tgt := 18) hx hb dL_law_1374 (by decide) ?_
        refine lv_iload_n hx hb dL_law_18 rfl (lv_at hl 0 rfl) ?_
        refine lv_aload_n hx hb dL_law_19 rfl (lv_at hl 3 rfl) ?_
        refine va_slen hx hb hX hbl hbA hS dL_law_20 ?_
        refine lv_topi (fun y_18 ey_18 => ?_)
        obtain rfl : y_18 = 6 := ey_18.trans (by decide)
        refine lv_bipush (v := 6) hx hb dL_law_21 (by decide) ?_
        refine lv_isub hx hb dL_law_23 ?_
        refine lv_topi (fun y_19 ey_19 => ?_)
        obtain rfl : y_19 = 0 := ey_19.trans (by decide)
        refine lv_icmp_gt (tgt := 1377) hx hb dL_law_24 (by decide) (fun c_20 => ?_) (fun c_20 => ?_)
        · refine lv_iconst (v := 1) hx hb dL_law_1377 (by decide) ?_
          refine va_forget (fun q hq => hS.2.2 q hq) ?_
          refine W.widen (k := 600000) (n := 7302250) (Nat.le_of_ble_eq_true rfl) (Nat.le_of_ble_eq_true rfl) ?_
          exact lw_ret hx hb hr hlocks dL_law_1378
        · exact absurd c_20 (by decide)
      · exact absurd c_17 (by decide)
    · refine lv_icmp_eq (tgt := 1371) hx hb dL_law_1034 (by decide) (fun c_21 => ?_) (fun c_21 => ?_)
      · exact absurd c_21 (by decide)
      · refine lv_iconst (v := 0) hx hb dL_law_1037 (by decide) ?_
        exfalso; omega
    · refine lv_icmp_eq (tgt := 1371) hx hb dL_law_1034 (by decide) (fun c_22 => ?_) (fun c_22 => ?_)
      · refine lv_iinc (v := 6) (lv' := [(3, .int 6), (2, .ref m0), (1, .ref x0), (0, .ref b)]) hx hb dL_law_1371 hl (k := 0) rfl (by decide) (by decide) rfl (fun ls hl => ?_)
        refine lv_goto (tgt := 18) hx hb dL_law_1374 (by decide) ?_
        refine lv_iload_n hx hb dL_law_18 rfl (lv_at hl 0 rfl) ?_
        refine lv_aload_n hx hb dL_law_19 rfl (lv_at hl 3 rfl) ?_
        refine va_slen hx hb hX hbl hbA hS dL_law_20 ?_
        refine lv_topi (fun y_23 ey_23 => ?_)
        obtain rfl : y_23 = 6 := ey_23.trans (by decide)
        refine lv_bipush (v := 6) hx hb dL_law_21 (by decide) ?_
        refine lv_isub hx hb dL_law_23 ?_
        refine lv_topi (fun y_24 ey_24 => ?_)
        obtain rfl : y_24 = 0 := ey_24.trans (by decide)
        refine lv_icmp_gt (tgt := 1377) hx hb dL_law_24 (by decide) (fun c_25 => ?_) (fun c_25 => ?_)
        · refine lv_iconst (v := 1) hx hb dL_law_1377 (by decide) ?_
          refine va_forget (fun q hq => hS.2.2 q hq) ?_
          refine W.widen (k := 600000) (n := 7302250) (Nat.le_of_ble_eq_true rfl) (Nat.le_of_ble_eq_true rfl) ?_
          exact lw_ret hx hb hr hlocks dL_law_1378
        · exact absurd c_25 (by decide)
      · exact absurd c_22 (by decide)
  · refine lv_aload_n hx hb dL_law_1025 rfl (lv_at hl 1 rfl) ?_
    refine lv_aload_n hx hb dL_law_1026 rfl (lv_at hl 3 rfl) ?_
    refine lv_iload_n hx hb dL_law_1027 rfl (lv_at hl 0 rfl) ?_
    refine lv_iconst (v := 1) hx hb dL_law_1028 (by decide) ?_
    refine lv_iadd hx hb dL_law_1029 ?_
    refine lv_topi (fun y_26 ey_26 => ?_)
    obtain rfl : y_26 = 1 := ey_26.trans (by decide)
    refine va_sld hx hb hX hbl hbA hS (zf_in (by decide) (by decide)) dL_law_1030 ?_
    refine lv_topi (fun y_27 ey_27 => ?_)
    obtain rfl : a_3 = y_27 := ea_3.trans ey_27.symm
    skip
    refine zw_V (As := [.int a_3]) (rest := [.int 0]) (wr := [(mki, .inl (cI, 8, .inl (fun _ => 0))), (mpa, .inl (cI, 8, .inl (fun _ => 0))), (mta, .inl (cI, 8, .inl (fun _ => 0))), (mco, .inl (cI, 3, .inl (zL3 5 10 50))), (mhe, .inl (cI, 8, .inl (fun _ => 0))), (mso, .inl (cI, 8, .inl (fun _ => 0))), (msi, .inl (cI, 8, .inl (fun _ => 0))), (msh, .inl (cI, 8, .inl (fun _ => 0))), (mce, .inl (cJ, 1280, .inr (.inl (fun _ => 0)))), (mca, .inl (cJ, 160, .inr (.inl (fun _ => 0)))), (mwo, .inl (cI, 64, .inl fw_)), (mnu, .inl (cI, 10, .inl fn_)), (mte, .inl (cI, 3, .inl (fun _ => 0))), (mwa, .inl (cI, 130, .inl (fun _ => 0))), (mke, .inl (cI, 130, .inl (fun _ => 0))), (mma, .inl (cI, 3, .inl (fun _ => 0))), (mth, .inl (cI, 3, .inl (fun _ => 0))), (mtr, .inl (cI, 20, .inl (fun _ => 0)))]) ⟨hx, hb, hml, hown, hts⟩ (c_M_catches l D cI cJ cZ cP cS m0 mrf mki mpa mta mla msl mco mhe mso msi msh mce mca mwo mnu mte mwa mke mma mth mtr (a_3)  H.size) (cwV 1 hts gq_118 rfl rfl rfl (by decide +kernel) ⟨Nat.le_of_ble_eq_true rfl, Nat.le_of_ble_eq_true rfl⟩) hK hN (hZ.kept hS) hP hD hS hA [0, 1, 5, 6] [2, 3, 4, 7, 8, 9, 10, 11, 12, 13, 14, 15, 16, 17, 18, 19, 20, 21] rfl rfl (by decide) (by decide) (by decide) (va_recv hK hP (ci := 8) (q0 := 0) rfl rfl) rfl hl.1 rfl (Nat.le_of_ble_eq_true rfl) dL_law_1031 ⟨Nat.le_of_ble_eq_true rfl, Nat.le_of_ble_eq_true rfl⟩ (fun r_28 u_29 H locs hr_28 hP hD hS => ?_)
    replace hP : va_P D vwCl [(mki, .inl (cI, 8, .inl (fun _ => 0))), (mpa, .inl (cI, 8, .inl (fun _ => 0))), (mta, .inl (cI, 8, .inl (fun _ => 0))), (mco, .inl (cI, 3, .inl (zL3 5 10 50))), (mhe, .inl (cI, 8, .inl (fun _ => 0))), (mso, .inl (cI, 8, .inl (fun _ => 0))), (msi, .inl (cI, 8, .inl (fun _ => 0))), (msh, .inl (cI, 8, .inl (fun _ => 0))), (mce, .inl (cJ, 1280, .inr (.inl (fun _ => 0)))), (mca, .inl (cJ, 160, .inr (.inl (fun _ => 0)))), (mwo, .inl (cI, 64, .inl fw_)), (mnu, .inl (cI, 10, .inl fn_)), (mte, .inl (cI, 3, .inl (fun _ => 0))), (mwa, .inl (cI, 130, .inl (fun _ => 0))), (mke, .inl (cI, 130, .inl (fun _ => 0))), (mma, .inl (cI, 3, .inl (fun _ => 0))), (mth, .inl (cI, 3, .inl (fun _ => 0))), (mtr, .inl (cI, 20, .inl (fun _ => 0)))] H := hP
    replace hD : va_D _ [(mki, .inl (cI, 8, .inl (fun _ => 0))), (mpa, .inl (cI, 8, .inl (fun _ => 0))), (mta, .inl (cI, 8, .inl (fun _ => 0))), (mco, .inl (cI, 3, .inl (zL3 5 10 50))), (mhe, .inl (cI, 8, .inl (fun _ => 0))), (mso, .inl (cI, 8, .inl (fun _ => 0))), (msi, .inl (cI, 8, .inl (fun _ => 0))), (msh, .inl (cI, 8, .inl (fun _ => 0))), (mce, .inl (cJ, 1280, .inr (.inl (fun _ => 0)))), (mca, .inl (cJ, 160, .inr (.inl (fun _ => 0)))), (mwo, .inl (cI, 64, .inl fw_)), (mnu, .inl (cI, 10, .inl fn_)), (mte, .inl (cI, 3, .inl (fun _ => 0))), (mwa, .inl (cI, 130, .inl (fun _ => 0))), (mke, .inl (cI, 130, .inl (fun _ => 0))), (mma, .inl (cI, 3, .inl (fun _ => 0))), (mth, .inl (cI, 3, .inl (fun _ => 0))), (mtr, .inl (cI, 20, .inl (fun _ => 0)))] := hD
    rcases hr_28 with ⟨rfl, g_30, g_31⟩ | ⟨rfl, g_32, g_33⟩ | ⟨rfl, g_34⟩
    · exfalso; omega
    · refine lv_icmp_eq (tgt := 1371) hx hb dL_law_1034 (by decide) (fun c_35 => ?_) (fun c_35 => ?_)
      · refine lv_iinc (v := 6) (lv' := [(3, .int 6), (2, .ref m0), (1, .ref x0), (0, .ref b)]) hx hb dL_law_1371 hl (k := 0) rfl (by decide) (by decide) rfl (fun ls hl => ?_)
        refine lv_goto (tgt := 18) hx hb dL_law_1374 (by decide) ?_
        refine lv_iload_n hx hb dL_law_18 rfl (lv_at hl 0 rfl) ?_
        refine lv_aload_n hx hb dL_law_19 rfl (lv_at hl 3 rfl) ?_
        refine va_slen hx hb hX hbl hbA hS dL_law_20 ?_
        refine lv_topi (fun y_36 ey_36 => ?_)
        obtain rfl : y_36 = 6 := ey_36.trans (by decide)
        refine lv_bipush (v := 6) hx hb dL_law_21 (by decide) ?_
        refine lv_isub hx hb dL_law_23 ?_
        refine lv_topi (fun y_37 ey_37 => ?_)
        obtain rfl : y_37 = 0 := ey_37.trans (by decide)
        refine lv_icmp_gt (tgt := 1377) hx hb dL_law_24 (by decide) (fun c_38 => ?_) (fun c_38 => ?_)
        · refine lv_iconst (v := 1) hx hb dL_law_1377 (by decide) ?_
          refine va_forget (fun q hq => hS.2.2 q hq) ?_
          refine W.widen (k := 600000) (n := 7302250) (Nat.le_of_ble_eq_true rfl) (Nat.le_of_ble_eq_true rfl) ?_
          exact lw_ret hx hb hr hlocks dL_law_1378
        · exact absurd c_38 (by decide)
      · exact absurd c_35 (by decide)
    · exfalso; omega
set_option maxHeartbeats 8000000 in
set_option maxRecDepth 100000 in
theorem law_case_24 {p : Program} {l : Launch} {e : Env} {s : State} {m : MethodId} {below : List Frame} {meth : Method} {c : Code} {D : va_G} {cI cJ cZ cP cS : ClassId} {b : Nat} {xs_ : Nat → Int32} (x0 xs j0 k0 w0 rd mv xr z0 jp jc zl zs kz kp kc kzl kzs wk wl wc wp ri rl mb m0 mrf mki mpa mta mla msl mco mhe mso msi msh mce mca mwo mnu mte mwa mke mma mth mtr : Nat) (sh el : Nat → Nat) (fw_ fn_ : Nat → Int32) (C0 : lw_At p s m meth c b 6 xs_) (hK : va_K D vwCl (zKT cI cJ cZ cP cS) s) (hN : zN s) (hZ : zSt (fun q : Nat => s.heap.size ≤ q) s s.heap) (H : Heap) (locs : List Loc) (hP : va_P D vwCl (zLW cI cJ cZ cP cS x0 xs j0 k0 w0 rd mv xr z0 jp jc zl zs kz kp kc kzl kzs wk wl wc wp ri rl mb m0 mrf mki mpa mta mla msl mco mhe mso msi msh mce mca mwo mnu mte mwa mke mma mth mtr sh el fw_ fn_) H) (hD : va_D (fun q : Nat => s.heap.size ≤ q) (zLW cI cJ cZ cP cS x0 xs j0 k0 w0 rd mv xr z0 jp jc zl zs kz kp kc kzl kzs wk wl wc wp ri rl mb m0 mrf mki mpa mta mla msl mco mhe mso msi msh mce mca mwo mnu mte mwa mke mma mth mtr sh el fw_ fn_)) (hS : va_S (fun q : Nat => s.heap.size ≤ q) s.heap H locs) (ls : Array Slot) (hl : lv_has ls 4 [(3, .int 0), (2, .ref m0), (1, .ref x0), (0, .ref b)]) : W p l e room_1 s m #[Value.ref b] below meth c H locs 100 10000 (lw_Z below #[Value.ref b] s) (F0 m 1039 ls []) := by
  obtain ⟨hx, hb, hr, hml, hown0, hts, hX, hbl, hlocks, hgv⟩ := id C0
  have hown : s.vm.findClass RL = some m.cls := hown0
  have hA : ∀ q : Nat, s.heap.size ≤ q → (fun q : Nat => s.heap.size ≤ q) q := fun _ h => h
  have hbA : ¬ (fun q : Nat => s.heap.size ≤ q) b := Nat.not_le.mpr hbl
  replace hP : va_P D vwCl ((x0, .inr (7, [.ref xs, .ref j0, .ref k0, .ref w0, .ref rd, .ref mv, .ref xr, .int 0, .int (-1)])) :: (xs, .inl (cS, 8, .inr (.inr (.inr (.inr (zS sh)))))) :: (j0, .inr (0, [.ref z0, .ref jp, .ref jc, .int 0, .int 0, .int 0, .int 60, .int 0, .int 1])) :: (z0, .inr (6, [.ref zl, .ref zs, .int 20, .int 0, .int 3])) :: (zl, .inl (cZ, 40, .inl (fun _ => 0))) :: (zs, .inl (cI, 40, .inl (fun _ => 0))) :: (jp, .inl (cP, 8, .inr (.inr (.inr (.inr (fun _ => none)))))) :: (jc, .inl (cI, 3, .inl (zL3 5 10 50))) :: (k0, .inr (0, [.ref kz, .ref kp, .ref kc, .int 0, .int 0, .int 0, .int 60, .int 0, .int 1])) :: (kz, .inr (6, [.ref kzl, .ref kzs, .int 20, .int 0, .int 3])) :: (kzl, .inl (cZ, 40, .inl (fun _ => 0))) :: (kzs, .inl (cI, 40, .inl (fun _ => 0))) :: (kp, .inl (cP, 8, .inr (.inr (.inr (.inr (fun _ => none)))))) :: (kc, .inl (cI, 3, .inl (zL3 5 10 50))) :: (w0, .inr (5, [.ref wk, .ref wl, .ref wc, .ref wp, .int 0, .int 0, .int 0])) :: (wk, .inl (cI, 125, .inl (fun _ => 0))) :: (wl, .inl (cI, 125, .inl (fun _ => 0))) :: (wc, .inl (cI, 3, .inl (fun _ => 0))) :: (wp, .inl (cP, 8, .inr (.inr (.inr (.inr (fun _ => none)))))) :: (rd, .inr (3, [.ref ri, .ref rl, .int 0, .int 0, .int 0, .int (-1), .int 0, .int 0])) :: (ri, .inl (cI, 132, .inl (fun _ => 0))) :: (rl, .inl (cI, 160, .inl (fun _ => 0))) :: (mv, .inr (1, [.ref mb, .int 0, .int 0, .int 0, .int 0])) :: (mb, .inl (cI, 20, .inl (fun _ => 0))) :: (xr, .inl (cI, 8, .inl (fun _ => 0))) :: ((sh 0), .inr (4, [.ref (el 0), .int (-1), .int 0])) :: ((el 0), .inl (cJ, 160, .inr (.inl (fun _ => 0)))) :: ((sh 1), .inr (4, [.ref (el 1), .int (-1), .int 0])) :: ((el 1), .inl (cJ, 160, .inr (.inl (fun _ => 0)))) :: ((sh 2), .inr (4, [.ref (el 2), .int (-1), .int 0])) :: ((el 2), .inl (cJ, 160, .inr (.inl (fun _ => 0)))) :: ((sh 3), .inr (4, [.ref (el 3), .int (-1), .int 0])) :: ((el 3), .inl (cJ, 160, .inr (.inl (fun _ => 0)))) :: ((sh 4), .inr (4, [.ref (el 4), .int (-1), .int 0])) :: ((el 4), .inl (cJ, 160, .inr (.inl (fun _ => 0)))) :: ((sh 5), .inr (4, [.ref (el 5), .int (-1), .int 0])) :: ((el 5), .inl (cJ, 160, .inr (.inl (fun _ => 0)))) :: ((sh 6), .inr (4, [.ref (el 6), .int (-1), .int 0])) :: ((el 6), .inl (cJ, 160, .inr (.inl (fun _ => 0)))) :: ((sh 7), .inr (4, [.ref (el 7), .int (-1), .int 0])) :: ((el 7), .inl (cJ, 160, .inr (.inl (fun _ => 0)))) :: (m0, .inr (8, (.int 0 :: .int 20 :: .int 0 :: .int 0 :: .int 0 :: .int 60 :: .int 0 :: .int 3 :: .int 1 :: .int (-1) :: .ref mrf :: .ref mki :: .ref mpa :: .ref mta :: .ref mla :: .ref msl :: .ref mco :: .ref mhe :: .ref mso :: .ref msi :: .ref msh :: .ref mce :: .ref mca :: .ref mwo :: .ref mnu :: .ref mte :: .int 0 :: .int 0 :: .int 0 :: .int 0 :: .int 0 :: .ref mwa :: .ref mke :: .ref mma :: .ref mth :: .ref mtr :: .int 0 :: .int 0 :: []))) :: (mrf, .inl (cI, 8, .inl (fun _ => 0))) :: (mki, .inl (cI, 8, .inl (fun _ => 0))) :: (mpa, .inl (cI, 8, .inl (fun _ => 0))) :: (mta, .inl (cI, 8, .inl (fun _ => 0))) :: (mla, .inl (cI, 40, .inl (fun _ => 0))) :: (msl, .inl (cI, 40, .inl (fun _ => 0))) :: (mco, .inl (cI, 3, .inl (zL3 5 10 50))) :: (mhe, .inl (cI, 8, .inl (fun _ => 0))) :: (mso, .inl (cI, 8, .inl (fun _ => 0))) :: (msi, .inl (cI, 8, .inl (fun _ => 0))) :: (msh, .inl (cI, 8, .inl (fun _ => 0))) :: (mce, .inl (cJ, 1280, .inr (.inl (fun _ => 0)))) :: (mca, .inl (cJ, 160, .inr (.inl (fun _ => 0)))) :: (mwo, .inl (cI, 64, .inl fw_)) :: (mnu, .inl (cI, 10, .inl fn_)) :: (mte, .inl (cI, 3, .inl (fun _ => 0))) :: (mwa, .inl (cI, 130, .inl (fun _ => 0))) :: (mke, .inl (cI, 130, .inl (fun _ => 0))) :: (mma, .inl (cI, 3, .inl (fun _ => 0))) :: (mth, .inl (cI, 3, .inl (fun _ => 0))) :: (mtr, .inl (cI, 20, .inl (fun _ => 0))) :: []) H := hP
  replace hD : va_D _ ((x0, .inr (7, [.ref xs, .ref j0, .ref k0, .ref w0, .ref rd, .ref mv, .ref xr, .int 0, .int (-1)])) :: (xs, .inl (cS, 8, .inr (.inr (.inr (.inr (zS sh)))))) :: (j0, .inr (0, [.ref z0, .ref jp, .ref jc, .int 0, .int 0, .int 0, .int 60, .int 0, .int 1])) :: (z0, .inr (6, [.ref zl, .ref zs, .int 20, .int 0, .int 3])) :: (zl, .inl (cZ, 40, .inl (fun _ => 0))) :: (zs, .inl (cI, 40, .inl (fun _ => 0))) :: (jp, .inl (cP, 8, .inr (.inr (.inr (.inr (fun _ => none)))))) :: (jc, .inl (cI, 3, .inl (zL3 5 10 50))) :: (k0, .inr (0, [.ref kz, .ref kp, .ref kc, .int 0, .int 0, .int 0, .int 60, .int 0, .int 1])) :: (kz, .inr (6, [.ref kzl, .ref kzs, .int 20, .int 0, .int 3])) :: (kzl, .inl (cZ, 40, .inl (fun _ => 0))) :: (kzs, .inl (cI, 40, .inl (fun _ => 0))) :: (kp, .inl (cP, 8, .inr (.inr (.inr (.inr (fun _ => none)))))) :: (kc, .inl (cI, 3, .inl (zL3 5 10 50))) :: (w0, .inr (5, [.ref wk, .ref wl, .ref wc, .ref wp, .int 0, .int 0, .int 0])) :: (wk, .inl (cI, 125, .inl (fun _ => 0))) :: (wl, .inl (cI, 125, .inl (fun _ => 0))) :: (wc, .inl (cI, 3, .inl (fun _ => 0))) :: (wp, .inl (cP, 8, .inr (.inr (.inr (.inr (fun _ => none)))))) :: (rd, .inr (3, [.ref ri, .ref rl, .int 0, .int 0, .int 0, .int (-1), .int 0, .int 0])) :: (ri, .inl (cI, 132, .inl (fun _ => 0))) :: (rl, .inl (cI, 160, .inl (fun _ => 0))) :: (mv, .inr (1, [.ref mb, .int 0, .int 0, .int 0, .int 0])) :: (mb, .inl (cI, 20, .inl (fun _ => 0))) :: (xr, .inl (cI, 8, .inl (fun _ => 0))) :: ((sh 0), .inr (4, [.ref (el 0), .int (-1), .int 0])) :: ((el 0), .inl (cJ, 160, .inr (.inl (fun _ => 0)))) :: ((sh 1), .inr (4, [.ref (el 1), .int (-1), .int 0])) :: ((el 1), .inl (cJ, 160, .inr (.inl (fun _ => 0)))) :: ((sh 2), .inr (4, [.ref (el 2), .int (-1), .int 0])) :: ((el 2), .inl (cJ, 160, .inr (.inl (fun _ => 0)))) :: ((sh 3), .inr (4, [.ref (el 3), .int (-1), .int 0])) :: ((el 3), .inl (cJ, 160, .inr (.inl (fun _ => 0)))) :: ((sh 4), .inr (4, [.ref (el 4), .int (-1), .int 0])) :: ((el 4), .inl (cJ, 160, .inr (.inl (fun _ => 0)))) :: ((sh 5), .inr (4, [.ref (el 5), .int (-1), .int 0])) :: ((el 5), .inl (cJ, 160, .inr (.inl (fun _ => 0)))) :: ((sh 6), .inr (4, [.ref (el 6), .int (-1), .int 0])) :: ((el 6), .inl (cJ, 160, .inr (.inl (fun _ => 0)))) :: ((sh 7), .inr (4, [.ref (el 7), .int (-1), .int 0])) :: ((el 7), .inl (cJ, 160, .inr (.inl (fun _ => 0)))) :: (m0, .inr (8, (.int 0 :: .int 20 :: .int 0 :: .int 0 :: .int 0 :: .int 60 :: .int 0 :: .int 3 :: .int 1 :: .int (-1) :: .ref mrf :: .ref mki :: .ref mpa :: .ref mta :: .ref mla :: .ref msl :: .ref mco :: .ref mhe :: .ref mso :: .ref msi :: .ref msh :: .ref mce :: .ref mca :: .ref mwo :: .ref mnu :: .ref mte :: .int 0 :: .int 0 :: .int 0 :: .int 0 :: .int 0 :: .ref mwa :: .ref mke :: .ref mma :: .ref mth :: .ref mtr :: .int 0 :: .int 0 :: []))) :: (mrf, .inl (cI, 8, .inl (fun _ => 0))) :: (mki, .inl (cI, 8, .inl (fun _ => 0))) :: (mpa, .inl (cI, 8, .inl (fun _ => 0))) :: (mta, .inl (cI, 8, .inl (fun _ => 0))) :: (mla, .inl (cI, 40, .inl (fun _ => 0))) :: (msl, .inl (cI, 40, .inl (fun _ => 0))) :: (mco, .inl (cI, 3, .inl (zL3 5 10 50))) :: (mhe, .inl (cI, 8, .inl (fun _ => 0))) :: (mso, .inl (cI, 8, .inl (fun _ => 0))) :: (msi, .inl (cI, 8, .inl (fun _ => 0))) :: (msh, .inl (cI, 8, .inl (fun _ => 0))) :: (mce, .inl (cJ, 1280, .inr (.inl (fun _ => 0)))) :: (mca, .inl (cJ, 160, .inr (.inl (fun _ => 0)))) :: (mwo, .inl (cI, 64, .inl fw_)) :: (mnu, .inl (cI, 10, .inl fn_)) :: (mte, .inl (cI, 3, .inl (fun _ => 0))) :: (mwa, .inl (cI, 130, .inl (fun _ => 0))) :: (mke, .inl (cI, 130, .inl (fun _ => 0))) :: (mma, .inl (cI, 3, .inl (fun _ => 0))) :: (mth, .inl (cI, 3, .inl (fun _ => 0))) :: (mtr, .inl (cI, 20, .inl (fun _ => 0))) :: []) := hD
  refine lv_aload_n hx hb dL_law_1039 rfl (lv_at hl 2 rfl) ?_
  refine lv_aload_n hx hb dL_law_1040 rfl (lv_at hl 3 rfl) ?_
  refine lv_iload_n hx hb dL_law_1041 rfl (lv_at hl 0 rfl) ?_
  refine lv_iconst (v := 1) hx hb dL_law_1042 (by decide) ?_
  refine lv_iadd hx hb dL_law_1043 ?_
  refine lv_topi (fun y_1 ey_1 => ?_)
  obtain rfl : y_1 = 1 := ey_1.trans (by decide)
  refine va_sld hx hb hX hbl hbA hS (zf_in (by decide) (by decide)) dL_law_1044 ?_
  refine lv_topi (fun a_3 ea_3 => ?_)
  skip
  refine zw_V (As := [.int a_3]) (rest := []) (wr := ((m0, .inr (8, (.int 0 :: .int 20 :: .int 0 :: .int 0 :: .int 0 :: .int 60 :: .int 0 :: .int 3 :: .int 1 :: .int (-1) :: .ref mrf :: .ref mki :: .ref mpa :: .ref mta :: .ref mla :: .ref msl :: .ref mco :: .ref mhe :: .ref mso :: .ref msi :: .ref msh :: .ref mce :: .ref mca :: .ref mwo :: .ref mnu :: .ref mte :: .int 0 :: .int 0 :: .int 0 :: .int 0 :: .int 0 :: .ref mwa :: .ref mke :: .ref mma :: .ref mth :: .ref mtr :: .int 0 :: .int 0 :: []))) :: (mrf, .inl (cI, 8, .inl (fun _ => 0))) :: (mki, .inl (cI, 8, .inl (fun _ => 0))) :: (mpa, .inl (cI, 8, .inl (fun _ => 0))) :: (mta, .inl (cI, 8, .inl (fun _ => 0))) :: (mla, .inl (cI, 40, .inl (fun _ => 0))) :: (msl, .inl (cI, 40, .inl (fun _ => 0))) :: (mco, .inl (cI, 3, .inl (zL3 5 10 50))) :: (mhe, .inl (cI, 8, .inl (fun _ => 0))) :: (mso, .inl (cI, 8, .inl (fun _ => 0))) :: (msi, .inl (cI, 8, .inl (fun _ => 0))) :: (msh, .inl (cI, 8, .inl (fun _ => 0))) :: (mce, .inl (cJ, 1280, .inr (.inl (fun _ => 0)))) :: (mca, .inl (cJ, 160, .inr (.inl (fun _ => 0)))) :: (mwo, .inl (cI, 64, .inl fw_)) :: (mnu, .inl (cI, 10, .inl fn_)) :: (mte, .inl (cI, 3, .inl (fun _ => 0))) :: (mwa, .inl (cI, 130, .inl (fun _ => 0))) :: (mke, .inl (cI, 130, .inl (fun _ => 0))) :: (mma, .inl (cI, 3, .inl (fun _ => 0))) :: (mth, .inl (cI, 3, .inl (fun _ => 0))) :: (mtr, .inl (cI, 20, .inl (fun _ => 0))) :: [])) ⟨hx, hb, hml, hown, hts⟩ (c_stitches l D cI cJ cZ cP cS x0 xs j0 k0 w0 rd mv xr jp jc z0 zl zs (a_3)  H.size) (cwV 1 hts gq_119 rfl rfl rfl (by decide +kernel) ⟨Nat.le_of_ble_eq_true rfl, Nat.le_of_ble_eq_true rfl⟩) hK hN (hZ.kept hS) hP hD hS hA [0, 24, 2, 3, 4, 5] [41, 42, 43, 44, 45, 46, 47, 48, 49, 50, 51, 52, 53, 54, 55, 56, 57, 58, 59, 60, 61, 62] rfl rfl (by decide) (by decide) (by decide) (va_recv hK hP (ci := 7) (q0 := 0) rfl rfl) rfl hl.1 rfl (Nat.le_of_ble_eq_true rfl) dL_law_1045 ⟨Nat.le_of_ble_eq_true rfl, Nat.le_of_ble_eq_true rfl⟩ (fun r_4 u_5 H locs hr_4 hP hD hS => ?_)
  replace hP : va_P D vwCl ((m0, .inr (8, (.int 0 :: .int 20 :: .int 0 :: .int 0 :: .int 0 :: .int 60 :: .int 0 :: .int 3 :: .int 1 :: .int (-1) :: .ref mrf :: .ref mki :: .ref mpa :: .ref mta :: .ref mla :: .ref msl :: .ref mco :: .ref mhe :: .ref mso :: .ref msi :: .ref msh :: .ref mce :: .ref mca :: .ref mwo :: .ref mnu :: .ref mte :: .int 0 :: .int 0 :: .int 0 :: .int 0 :: .int 0 :: .ref mwa :: .ref mke :: .ref mma :: .ref mth :: .ref mtr :: .int 0 :: .int 0 :: []))) :: (mrf, .inl (cI, 8, .inl (fun _ => 0))) :: (mki, .inl (cI, 8, .inl (fun _ => 0))) :: (mpa, .inl (cI, 8, .inl (fun _ => 0))) :: (mta, .inl (cI, 8, .inl (fun _ => 0))) :: (mla, .inl (cI, 40, .inl (fun _ => 0))) :: (msl, .inl (cI, 40, .inl (fun _ => 0))) :: (mco, .inl (cI, 3, .inl (zL3 5 10 50))) :: (mhe, .inl (cI, 8, .inl (fun _ => 0))) :: (mso, .inl (cI, 8, .inl (fun _ => 0))) :: (msi, .inl (cI, 8, .inl (fun _ => 0))) :: (msh, .inl (cI, 8, .inl (fun _ => 0))) :: (mce, .inl (cJ, 1280, .inr (.inl (fun _ => 0)))) :: (mca, .inl (cJ, 160, .inr (.inl (fun _ => 0)))) :: (mwo, .inl (cI, 64, .inl fw_)) :: (mnu, .inl (cI, 10, .inl fn_)) :: (mte, .inl (cI, 3, .inl (fun _ => 0))) :: (mwa, .inl (cI, 130, .inl (fun _ => 0))) :: (mke, .inl (cI, 130, .inl (fun _ => 0))) :: (mma, .inl (cI, 3, .inl (fun _ => 0))) :: (mth, .inl (cI, 3, .inl (fun _ => 0))) :: (mtr, .inl (cI, 20, .inl (fun _ => 0))) :: []) H := hP
  replace hD : va_D _ ((m0, .inr (8, (.int 0 :: .int 20 :: .int 0 :: .int 0 :: .int 0 :: .int 60 :: .int 0 :: .int 3 :: .int 1 :: .int (-1) :: .ref mrf :: .ref mki :: .ref mpa :: .ref mta :: .ref mla :: .ref msl :: .ref mco :: .ref mhe :: .ref mso :: .ref msi :: .ref msh :: .ref mce :: .ref mca :: .ref mwo :: .ref mnu :: .ref mte :: .int 0 :: .int 0 :: .int 0 :: .int 0 :: .int 0 :: .ref mwa :: .ref mke :: .ref mma :: .ref mth :: .ref mtr :: .int 0 :: .int 0 :: []))) :: (mrf, .inl (cI, 8, .inl (fun _ => 0))) :: (mki, .inl (cI, 8, .inl (fun _ => 0))) :: (mpa, .inl (cI, 8, .inl (fun _ => 0))) :: (mta, .inl (cI, 8, .inl (fun _ => 0))) :: (mla, .inl (cI, 40, .inl (fun _ => 0))) :: (msl, .inl (cI, 40, .inl (fun _ => 0))) :: (mco, .inl (cI, 3, .inl (zL3 5 10 50))) :: (mhe, .inl (cI, 8, .inl (fun _ => 0))) :: (mso, .inl (cI, 8, .inl (fun _ => 0))) :: (msi, .inl (cI, 8, .inl (fun _ => 0))) :: (msh, .inl (cI, 8, .inl (fun _ => 0))) :: (mce, .inl (cJ, 1280, .inr (.inl (fun _ => 0)))) :: (mca, .inl (cJ, 160, .inr (.inl (fun _ => 0)))) :: (mwo, .inl (cI, 64, .inl fw_)) :: (mnu, .inl (cI, 10, .inl fn_)) :: (mte, .inl (cI, 3, .inl (fun _ => 0))) :: (mwa, .inl (cI, 130, .inl (fun _ => 0))) :: (mke, .inl (cI, 130, .inl (fun _ => 0))) :: (mma, .inl (cI, 3, .inl (fun _ => 0))) :: (mth, .inl (cI, 3, .inl (fun _ => 0))) :: (mtr, .inl (cI, 20, .inl (fun _ => 0))) :: []) := hD
  rcases hr_4 with ⟨rfl, g_6⟩ | ⟨rfl, g_7⟩
  · refine lv_aload_n hx hb dL_law_1048 rfl (lv_at hl 1 rfl) ?_
    refine lv_aload_n hx hb dL_law_1049 rfl (lv_at hl 3 rfl) ?_
    refine lv_iload_n hx hb dL_law_1050 rfl (lv_at hl 0 rfl) ?_
    refine lv_iconst (v := 1) hx hb dL_law_1051 (by decide) ?_
    refine lv_iadd hx hb dL_law_1052 ?_
    refine lv_topi (fun y_8 ey_8 => ?_)
    obtain rfl : y_8 = 1 := ey_8.trans (by decide)
    refine va_sld hx hb hX hbl hbA hS (zf_in (by decide) (by decide)) dL_law_1053 ?_
    refine lv_topi (fun y_9 ey_9 => ?_)
    obtain rfl : a_3 = y_9 := ea_3.trans ey_9.symm
    skip
    refine zw_V (As := [.int a_3]) (rest := [.int (-5)]) (wr := [(mki, .inl (cI, 8, .inl (fun _ => 0))), (mpa, .inl (cI, 8, .inl (fun _ => 0))), (mta, .inl (cI, 8, .inl (fun _ => 0))), (mco, .inl (cI, 3, .inl (zL3 5 10 50))), (mhe, .inl (cI, 8, .inl (fun _ => 0))), (mso, .inl (cI, 8, .inl (fun _ => 0))), (msi, .inl (cI, 8, .inl (fun _ => 0))), (msh, .inl (cI, 8, .inl (fun _ => 0))), (mce, .inl (cJ, 1280, .inr (.inl (fun _ => 0)))), (mca, .inl (cJ, 160, .inr (.inl (fun _ => 0)))), (mwo, .inl (cI, 64, .inl fw_)), (mnu, .inl (cI, 10, .inl fn_)), (mte, .inl (cI, 3, .inl (fun _ => 0))), (mwa, .inl (cI, 130, .inl (fun _ => 0))), (mke, .inl (cI, 130, .inl (fun _ => 0))), (mma, .inl (cI, 3, .inl (fun _ => 0))), (mth, .inl (cI, 3, .inl (fun _ => 0))), (mtr, .inl (cI, 20, .inl (fun _ => 0)))]) ⟨hx, hb, hml, hown, hts⟩ (c_M_stitches l D cI cJ cZ cP cS m0 mrf mki mpa mta mla msl mco mhe mso msi msh mce mca mwo mnu mte mwa mke mma mth mtr (a_3)  H.size) (cwV 1 hts gq_122 rfl rfl rfl (by decide +kernel) ⟨Nat.le_of_ble_eq_true rfl, Nat.le_of_ble_eq_true rfl⟩) hK hN (hZ.kept hS) hP hD hS hA [0, 1, 5, 6] [2, 3, 4, 7, 8, 9, 10, 11, 12, 13, 14, 15, 16, 17, 18, 19, 20, 21] rfl rfl (by decide) (by decide) (by decide) (va_recv hK hP (ci := 8) (q0 := 0) rfl rfl) rfl hl.1 rfl (Nat.le_of_ble_eq_true rfl) dL_law_1054 ⟨Nat.le_of_ble_eq_true rfl, Nat.le_of_ble_eq_true rfl⟩ (fun r_10 u_11 H locs hr_10 hP hD hS => ?_)
    replace hP : va_P D vwCl [(mki, .inl (cI, 8, .inl (fun _ => 0))), (mpa, .inl (cI, 8, .inl (fun _ => 0))), (mta, .inl (cI, 8, .inl (fun _ => 0))), (mco, .inl (cI, 3, .inl (zL3 5 10 50))), (mhe, .inl (cI, 8, .inl (fun _ => 0))), (mso, .inl (cI, 8, .inl (fun _ => 0))), (msi, .inl (cI, 8, .inl (fun _ => 0))), (msh, .inl (cI, 8, .inl (fun _ => 0))), (mce, .inl (cJ, 1280, .inr (.inl (fun _ => 0)))), (mca, .inl (cJ, 160, .inr (.inl (fun _ => 0)))), (mwo, .inl (cI, 64, .inl fw_)), (mnu, .inl (cI, 10, .inl fn_)), (mte, .inl (cI, 3, .inl (fun _ => 0))), (mwa, .inl (cI, 130, .inl (fun _ => 0))), (mke, .inl (cI, 130, .inl (fun _ => 0))), (mma, .inl (cI, 3, .inl (fun _ => 0))), (mth, .inl (cI, 3, .inl (fun _ => 0))), (mtr, .inl (cI, 20, .inl (fun _ => 0)))] H := hP
    replace hD : va_D _ [(mki, .inl (cI, 8, .inl (fun _ => 0))), (mpa, .inl (cI, 8, .inl (fun _ => 0))), (mta, .inl (cI, 8, .inl (fun _ => 0))), (mco, .inl (cI, 3, .inl (zL3 5 10 50))), (mhe, .inl (cI, 8, .inl (fun _ => 0))), (mso, .inl (cI, 8, .inl (fun _ => 0))), (msi, .inl (cI, 8, .inl (fun _ => 0))), (msh, .inl (cI, 8, .inl (fun _ => 0))), (mce, .inl (cJ, 1280, .inr (.inl (fun _ => 0)))), (mca, .inl (cJ, 160, .inr (.inl (fun _ => 0)))), (mwo, .inl (cI, 64, .inl fw_)), (mnu, .inl (cI, 10, .inl fn_)), (mte, .inl (cI, 3, .inl (fun _ => 0))), (mwa, .inl (cI, 130, .inl (fun _ => 0))), (mke, .inl (cI, 130, .inl (fun _ => 0))), (mma, .inl (cI, 3, .inl (fun _ => 0))), (mth, .inl (cI, 3, .inl (fun _ => 0))), (mtr, .inl (cI, 20, .inl (fun _ => 0)))] := hD
    rcases hr_10 with ⟨rfl, g_12, g_13⟩ | ⟨rfl, g_14, g_15⟩ | ⟨rfl, g_16⟩
    · refine lv_icmp_eq (tgt := 1371) hx hb dL_law_1057 (by decide) (fun c_17 => ?_) (fun c_17 => ?_)
      · refine lv_iinc (v := 6) (lv' := [(3, .int 6), (2, .ref m0), (1, .ref x0), (0, .ref b)]) hx hb dL_law_1371 hl (k := 0) rfl (by decide) (by decide) rfl (fun ls hl => ?_)
        refine lv_goto (tgt := 18) hx hb dL_law_1374 (by decide) ?_
        refine lv_iload_n hx hb dL_law_18 rfl (lv_at hl 0 rfl) ?_
        refine lv_aload_n hx hb dL_law_19 rfl (lv_at hl 3 rfl) ?_
        refine va_slen hx hb hX hbl hbA hS dL_law_20 ?_
        refine lv_topi (fun y_18 ey_18 => ?_)
        obtain rfl : y_18 = 6 := ey_18.trans (by decide)
        refine lv_bipush (v := 6) hx hb dL_law_21 (by decide) ?_
        refine lv_isub hx hb dL_law_23 ?_
        refine lv_topi (fun y_19 ey_19 => ?_)
        obtain rfl : y_19 = 0 := ey_19.trans (by decide)
        refine lv_icmp_gt (tgt := 1377) hx hb dL_law_24 (by decide) (fun c_20 => ?_) (fun c_20 => ?_)
        · refine lv_iconst (v := 1) hx hb dL_law_1377 (by decide) ?_
          refine va_forget (fun q hq => hS.2.2 q hq) ?_
          refine W.widen (k := 600000) (n := 7302250) (Nat.le_of_ble_eq_true rfl) (Nat.le_of_ble_eq_true rfl) ?_
          exact lw_ret hx hb hr hlocks dL_law_1378
        · exact absurd c_20 (by decide)
      · exact absurd c_17 (by decide)
    · refine lv_icmp_eq (tgt := 1371) hx hb dL_law_1057 (by decide) (fun c_21 => ?_) (fun c_21 => ?_)
      · exact absurd c_21 (by decide)
      · refine lv_iconst (v := 0) hx hb dL_law_1060 (by decide) ?_
        exfalso; omega
    · refine lv_icmp_eq (tgt := 1371) hx hb dL_law_1057 (by decide) (fun c_22 => ?_) (fun c_22 => ?_)
      · refine lv_iinc (v := 6) (lv' := [(3, .int 6), (2, .ref m0), (1, .ref x0), (0, .ref b)]) hx hb dL_law_1371 hl (k := 0) rfl (by decide) (by decide) rfl (fun ls hl => ?_)
        refine lv_goto (tgt := 18) hx hb dL_law_1374 (by decide) ?_
        refine lv_iload_n hx hb dL_law_18 rfl (lv_at hl 0 rfl) ?_
        refine lv_aload_n hx hb dL_law_19 rfl (lv_at hl 3 rfl) ?_
        refine va_slen hx hb hX hbl hbA hS dL_law_20 ?_
        refine lv_topi (fun y_23 ey_23 => ?_)
        obtain rfl : y_23 = 6 := ey_23.trans (by decide)
        refine lv_bipush (v := 6) hx hb dL_law_21 (by decide) ?_
        refine lv_isub hx hb dL_law_23 ?_
        refine lv_topi (fun y_24 ey_24 => ?_)
        obtain rfl : y_24 = 0 := ey_24.trans (by decide)
        refine lv_icmp_gt (tgt := 1377) hx hb dL_law_24 (by decide) (fun c_25 => ?_) (fun c_25 => ?_)
        · refine lv_iconst (v := 1) hx hb dL_law_1377 (by decide) ?_
          refine va_forget (fun q hq => hS.2.2 q hq) ?_
          refine W.widen (k := 600000) (n := 7302250) (Nat.le_of_ble_eq_true rfl) (Nat.le_of_ble_eq_true rfl) ?_
          exact lw_ret hx hb hr hlocks dL_law_1378
        · exact absurd c_25 (by decide)
      · exact absurd c_22 (by decide)
  · refine lv_aload_n hx hb dL_law_1048 rfl (lv_at hl 1 rfl) ?_
    refine lv_aload_n hx hb dL_law_1049 rfl (lv_at hl 3 rfl) ?_
    refine lv_iload_n hx hb dL_law_1050 rfl (lv_at hl 0 rfl) ?_
    refine lv_iconst (v := 1) hx hb dL_law_1051 (by decide) ?_
    refine lv_iadd hx hb dL_law_1052 ?_
    refine lv_topi (fun y_26 ey_26 => ?_)
    obtain rfl : y_26 = 1 := ey_26.trans (by decide)
    refine va_sld hx hb hX hbl hbA hS (zf_in (by decide) (by decide)) dL_law_1053 ?_
    refine lv_topi (fun y_27 ey_27 => ?_)
    obtain rfl : a_3 = y_27 := ea_3.trans ey_27.symm
    skip
    refine zw_V (As := [.int a_3]) (rest := [.int 0]) (wr := [(mki, .inl (cI, 8, .inl (fun _ => 0))), (mpa, .inl (cI, 8, .inl (fun _ => 0))), (mta, .inl (cI, 8, .inl (fun _ => 0))), (mco, .inl (cI, 3, .inl (zL3 5 10 50))), (mhe, .inl (cI, 8, .inl (fun _ => 0))), (mso, .inl (cI, 8, .inl (fun _ => 0))), (msi, .inl (cI, 8, .inl (fun _ => 0))), (msh, .inl (cI, 8, .inl (fun _ => 0))), (mce, .inl (cJ, 1280, .inr (.inl (fun _ => 0)))), (mca, .inl (cJ, 160, .inr (.inl (fun _ => 0)))), (mwo, .inl (cI, 64, .inl fw_)), (mnu, .inl (cI, 10, .inl fn_)), (mte, .inl (cI, 3, .inl (fun _ => 0))), (mwa, .inl (cI, 130, .inl (fun _ => 0))), (mke, .inl (cI, 130, .inl (fun _ => 0))), (mma, .inl (cI, 3, .inl (fun _ => 0))), (mth, .inl (cI, 3, .inl (fun _ => 0))), (mtr, .inl (cI, 20, .inl (fun _ => 0)))]) ⟨hx, hb, hml, hown, hts⟩ (c_M_stitches l D cI cJ cZ cP cS m0 mrf mki mpa mta mla msl mco mhe mso msi msh mce mca mwo mnu mte mwa mke mma mth mtr (a_3)  H.size) (cwV 1 hts gq_122 rfl rfl rfl (by decide +kernel) ⟨Nat.le_of_ble_eq_true rfl, Nat.le_of_ble_eq_true rfl⟩) hK hN (hZ.kept hS) hP hD hS hA [0, 1, 5, 6] [2, 3, 4, 7, 8, 9, 10, 11, 12, 13, 14, 15, 16, 17, 18, 19, 20, 21] rfl rfl (by decide) (by decide) (by decide) (va_recv hK hP (ci := 8) (q0 := 0) rfl rfl) rfl hl.1 rfl (Nat.le_of_ble_eq_true rfl) dL_law_1054 ⟨Nat.le_of_ble_eq_true rfl, Nat.le_of_ble_eq_true rfl⟩ (fun r_28 u_29 H locs hr_28 hP hD hS => ?_)
    replace hP : va_P D vwCl [(mki, .inl (cI, 8, .inl (fun _ => 0))), (mpa, .inl (cI, 8, .inl (fun _ => 0))), (mta, .inl (cI, 8, .inl (fun _ => 0))), (mco, .inl (cI, 3, .inl (zL3 5 10 50))), (mhe, .inl (cI, 8, .inl (fun _ => 0))), (mso, .inl (cI, 8, .inl (fun _ => 0))), (msi, .inl (cI, 8, .inl (fun _ => 0))), (msh, .inl (cI, 8, .inl (fun _ => 0))), (mce, .inl (cJ, 1280, .inr (.inl (fun _ => 0)))), (mca, .inl (cJ, 160, .inr (.inl (fun _ => 0)))), (mwo, .inl (cI, 64, .inl fw_)), (mnu, .inl (cI, 10, .inl fn_)), (mte, .inl (cI, 3, .inl (fun _ => 0))), (mwa, .inl (cI, 130, .inl (fun _ => 0))), (mke, .inl (cI, 130, .inl (fun _ => 0))), (mma, .inl (cI, 3, .inl (fun _ => 0))), (mth, .inl (cI, 3, .inl (fun _ => 0))), (mtr, .inl (cI, 20, .inl (fun _ => 0)))] H := hP
    replace hD : va_D _ [(mki, .inl (cI, 8, .inl (fun _ => 0))), (mpa, .inl (cI, 8, .inl (fun _ => 0))), (mta, .inl (cI, 8, .inl (fun _ => 0))), (mco, .inl (cI, 3, .inl (zL3 5 10 50))), (mhe, .inl (cI, 8, .inl (fun _ => 0))), (mso, .inl (cI, 8, .inl (fun _ => 0))), (msi, .inl (cI, 8, .inl (fun _ => 0))), (msh, .inl (cI, 8, .inl (fun _ => 0))), (mce, .inl (cJ, 1280, .inr (.inl (fun _ => 0)))), (mca, .inl (cJ, 160, .inr (.inl (fun _ => 0)))), (mwo, .inl (cI, 64, .inl fw_)), (mnu, .inl (cI, 10, .inl fn_)), (mte, .inl (cI, 3, .inl (fun _ => 0))), (mwa, .inl (cI, 130, .inl (fun _ => 0))), (mke, .inl (cI, 130, .inl (fun _ => 0))), (mma, .inl (cI, 3, .inl (fun _ => 0))), (mth, .inl (cI, 3, .inl (fun _ => 0))), (mtr, .inl (cI, 20, .inl (fun _ => 0)))] := hD
    rcases hr_28 with ⟨rfl, g_30, g_31⟩ | ⟨rfl, g_32, g_33⟩ | ⟨rfl, g_34⟩
    · exfalso; omega
    · refine lv_icmp_eq (tgt := 1371) hx hb dL_law_1057 (by decide) (fun c_35 => ?_) (fun c_35 => ?_)
      · refine lv_iinc (v := 6) (lv' := [(3, .int 6), (2, .ref m0), (1, .ref x0), (0, .ref b)]) hx hb dL_law_1371 hl (k := 0) rfl (by decide) (by decide) rfl (fun ls hl => ?_)
        refine lv_goto (tgt := 18) hx hb dL_law_1374 (by decide) ?_
        refine lv_iload_n hx hb dL_law_18 rfl (lv_at hl 0 rfl) ?_
        refine lv_aload_n hx hb dL_law_19 rfl (lv_at hl 3 rfl) ?_
        refine va_slen hx hb hX hbl hbA hS dL_law_20 ?_
        refine lv_topi (fun y_36 ey_36 => ?_)
        obtain rfl : y_36 = 6 := ey_36.trans (by decide)
        refine lv_bipush (v := 6) hx hb dL_law_21 (by decide) ?_
        refine lv_isub hx hb dL_law_23 ?_
        refine lv_topi (fun y_37 ey_37 => ?_)
        obtain rfl : y_37 = 0 := ey_37.trans (by decide)
        refine lv_icmp_gt (tgt := 1377) hx hb dL_law_24 (by decide) (fun c_38 => ?_) (fun c_38 => ?_)
        · refine lv_iconst (v := 1) hx hb dL_law_1377 (by decide) ?_
          refine va_forget (fun q hq => hS.2.2 q hq) ?_
          refine W.widen (k := 600000) (n := 7302250) (Nat.le_of_ble_eq_true rfl) (Nat.le_of_ble_eq_true rfl) ?_
          exact lw_ret hx hb hr hlocks dL_law_1378
        · exact absurd c_38 (by decide)
      · exact absurd c_35 (by decide)
    · exfalso; omega
set_option maxHeartbeats 8000000 in
set_option maxRecDepth 100000 in
theorem law_case_25 {p : Program} {l : Launch} {e : Env} {s : State} {m : MethodId} {below : List Frame} {meth : Method} {c : Code} {D : va_G} {cI cJ cZ cP cS : ClassId} {b : Nat} {xs_ : Nat → Int32} (x0 xs j0 k0 w0 rd mv xr z0 jp jc zl zs kz kp kc kzl kzs wk wl wc wp ri rl mb m0 mrf mki mpa mta mla msl mco mhe mso msi msh mce mca mwo mnu mte mwa mke mma mth mtr : Nat) (sh el : Nat → Nat) (fw_ fn_ : Nat → Int32) (C0 : lw_At p s m meth c b 6 xs_) (hK : va_K D vwCl (zKT cI cJ cZ cP cS) s) (hN : zN s) (hZ : zSt (fun q : Nat => s.heap.size ≤ q) s s.heap) (H : Heap) (locs : List Loc) (hP : va_P D vwCl (zLW cI cJ cZ cP cS x0 xs j0 k0 w0 rd mv xr z0 jp jc zl zs kz kp kc kzl kzs wk wl wc wp ri rl mb m0 mrf mki mpa mta mla msl mco mhe mso msi msh mce mca mwo mnu mte mwa mke mma mth mtr sh el fw_ fn_) H) (hD : va_D (fun q : Nat => s.heap.size ≤ q) (zLW cI cJ cZ cP cS x0 xs j0 k0 w0 rd mv xr z0 jp jc zl zs kz kp kc kzl kzs wk wl wc wp ri rl mb m0 mrf mki mpa mta mla msl mco mhe mso msi msh mce mca mwo mnu mte mwa mke mma mth mtr sh el fw_ fn_)) (hS : va_S (fun q : Nat => s.heap.size ≤ q) s.heap H locs) (ls : Array Slot) (hl : lv_has ls 4 [(3, .int 0), (2, .ref m0), (1, .ref x0), (0, .ref b)]) : W p l e room_1 s m #[Value.ref b] below meth c H locs 100 10000 (lw_Z below #[Value.ref b] s) (F0 m 1062 ls []) := by
  obtain ⟨hx, hb, hr, hml, hown0, hts, hX, hbl, hlocks, hgv⟩ := id C0
  have hown : s.vm.findClass RL = some m.cls := hown0
  have hA : ∀ q : Nat, s.heap.size ≤ q → (fun q : Nat => s.heap.size ≤ q) q := fun _ h => h
  have hbA : ¬ (fun q : Nat => s.heap.size ≤ q) b := Nat.not_le.mpr hbl
  replace hP : va_P D vwCl ((x0, .inr (7, [.ref xs, .ref j0, .ref k0, .ref w0, .ref rd, .ref mv, .ref xr, .int 0, .int (-1)])) :: (xs, .inl (cS, 8, .inr (.inr (.inr (.inr (zS sh)))))) :: (j0, .inr (0, [.ref z0, .ref jp, .ref jc, .int 0, .int 0, .int 0, .int 60, .int 0, .int 1])) :: (z0, .inr (6, [.ref zl, .ref zs, .int 20, .int 0, .int 3])) :: (zl, .inl (cZ, 40, .inl (fun _ => 0))) :: (zs, .inl (cI, 40, .inl (fun _ => 0))) :: (jp, .inl (cP, 8, .inr (.inr (.inr (.inr (fun _ => none)))))) :: (jc, .inl (cI, 3, .inl (zL3 5 10 50))) :: (k0, .inr (0, [.ref kz, .ref kp, .ref kc, .int 0, .int 0, .int 0, .int 60, .int 0, .int 1])) :: (kz, .inr (6, [.ref kzl, .ref kzs, .int 20, .int 0, .int 3])) :: (kzl, .inl (cZ, 40, .inl (fun _ => 0))) :: (kzs, .inl (cI, 40, .inl (fun _ => 0))) :: (kp, .inl (cP, 8, .inr (.inr (.inr (.inr (fun _ => none)))))) :: (kc, .inl (cI, 3, .inl (zL3 5 10 50))) :: (w0, .inr (5, [.ref wk, .ref wl, .ref wc, .ref wp, .int 0, .int 0, .int 0])) :: (wk, .inl (cI, 125, .inl (fun _ => 0))) :: (wl, .inl (cI, 125, .inl (fun _ => 0))) :: (wc, .inl (cI, 3, .inl (fun _ => 0))) :: (wp, .inl (cP, 8, .inr (.inr (.inr (.inr (fun _ => none)))))) :: (rd, .inr (3, [.ref ri, .ref rl, .int 0, .int 0, .int 0, .int (-1), .int 0, .int 0])) :: (ri, .inl (cI, 132, .inl (fun _ => 0))) :: (rl, .inl (cI, 160, .inl (fun _ => 0))) :: (mv, .inr (1, [.ref mb, .int 0, .int 0, .int 0, .int 0])) :: (mb, .inl (cI, 20, .inl (fun _ => 0))) :: (xr, .inl (cI, 8, .inl (fun _ => 0))) :: ((sh 0), .inr (4, [.ref (el 0), .int (-1), .int 0])) :: ((el 0), .inl (cJ, 160, .inr (.inl (fun _ => 0)))) :: ((sh 1), .inr (4, [.ref (el 1), .int (-1), .int 0])) :: ((el 1), .inl (cJ, 160, .inr (.inl (fun _ => 0)))) :: ((sh 2), .inr (4, [.ref (el 2), .int (-1), .int 0])) :: ((el 2), .inl (cJ, 160, .inr (.inl (fun _ => 0)))) :: ((sh 3), .inr (4, [.ref (el 3), .int (-1), .int 0])) :: ((el 3), .inl (cJ, 160, .inr (.inl (fun _ => 0)))) :: ((sh 4), .inr (4, [.ref (el 4), .int (-1), .int 0])) :: ((el 4), .inl (cJ, 160, .inr (.inl (fun _ => 0)))) :: ((sh 5), .inr (4, [.ref (el 5), .int (-1), .int 0])) :: ((el 5), .inl (cJ, 160, .inr (.inl (fun _ => 0)))) :: ((sh 6), .inr (4, [.ref (el 6), .int (-1), .int 0])) :: ((el 6), .inl (cJ, 160, .inr (.inl (fun _ => 0)))) :: ((sh 7), .inr (4, [.ref (el 7), .int (-1), .int 0])) :: ((el 7), .inl (cJ, 160, .inr (.inl (fun _ => 0)))) :: (m0, .inr (8, (.int 0 :: .int 20 :: .int 0 :: .int 0 :: .int 0 :: .int 60 :: .int 0 :: .int 3 :: .int 1 :: .int (-1) :: .ref mrf :: .ref mki :: .ref mpa :: .ref mta :: .ref mla :: .ref msl :: .ref mco :: .ref mhe :: .ref mso :: .ref msi :: .ref msh :: .ref mce :: .ref mca :: .ref mwo :: .ref mnu :: .ref mte :: .int 0 :: .int 0 :: .int 0 :: .int 0 :: .int 0 :: .ref mwa :: .ref mke :: .ref mma :: .ref mth :: .ref mtr :: .int 0 :: .int 0 :: []))) :: (mrf, .inl (cI, 8, .inl (fun _ => 0))) :: (mki, .inl (cI, 8, .inl (fun _ => 0))) :: (mpa, .inl (cI, 8, .inl (fun _ => 0))) :: (mta, .inl (cI, 8, .inl (fun _ => 0))) :: (mla, .inl (cI, 40, .inl (fun _ => 0))) :: (msl, .inl (cI, 40, .inl (fun _ => 0))) :: (mco, .inl (cI, 3, .inl (zL3 5 10 50))) :: (mhe, .inl (cI, 8, .inl (fun _ => 0))) :: (mso, .inl (cI, 8, .inl (fun _ => 0))) :: (msi, .inl (cI, 8, .inl (fun _ => 0))) :: (msh, .inl (cI, 8, .inl (fun _ => 0))) :: (mce, .inl (cJ, 1280, .inr (.inl (fun _ => 0)))) :: (mca, .inl (cJ, 160, .inr (.inl (fun _ => 0)))) :: (mwo, .inl (cI, 64, .inl fw_)) :: (mnu, .inl (cI, 10, .inl fn_)) :: (mte, .inl (cI, 3, .inl (fun _ => 0))) :: (mwa, .inl (cI, 130, .inl (fun _ => 0))) :: (mke, .inl (cI, 130, .inl (fun _ => 0))) :: (mma, .inl (cI, 3, .inl (fun _ => 0))) :: (mth, .inl (cI, 3, .inl (fun _ => 0))) :: (mtr, .inl (cI, 20, .inl (fun _ => 0))) :: []) H := hP
  replace hD : va_D _ ((x0, .inr (7, [.ref xs, .ref j0, .ref k0, .ref w0, .ref rd, .ref mv, .ref xr, .int 0, .int (-1)])) :: (xs, .inl (cS, 8, .inr (.inr (.inr (.inr (zS sh)))))) :: (j0, .inr (0, [.ref z0, .ref jp, .ref jc, .int 0, .int 0, .int 0, .int 60, .int 0, .int 1])) :: (z0, .inr (6, [.ref zl, .ref zs, .int 20, .int 0, .int 3])) :: (zl, .inl (cZ, 40, .inl (fun _ => 0))) :: (zs, .inl (cI, 40, .inl (fun _ => 0))) :: (jp, .inl (cP, 8, .inr (.inr (.inr (.inr (fun _ => none)))))) :: (jc, .inl (cI, 3, .inl (zL3 5 10 50))) :: (k0, .inr (0, [.ref kz, .ref kp, .ref kc, .int 0, .int 0, .int 0, .int 60, .int 0, .int 1])) :: (kz, .inr (6, [.ref kzl, .ref kzs, .int 20, .int 0, .int 3])) :: (kzl, .inl (cZ, 40, .inl (fun _ => 0))) :: (kzs, .inl (cI, 40, .inl (fun _ => 0))) :: (kp, .inl (cP, 8, .inr (.inr (.inr (.inr (fun _ => none)))))) :: (kc, .inl (cI, 3, .inl (zL3 5 10 50))) :: (w0, .inr (5, [.ref wk, .ref wl, .ref wc, .ref wp, .int 0, .int 0, .int 0])) :: (wk, .inl (cI, 125, .inl (fun _ => 0))) :: (wl, .inl (cI, 125, .inl (fun _ => 0))) :: (wc, .inl (cI, 3, .inl (fun _ => 0))) :: (wp, .inl (cP, 8, .inr (.inr (.inr (.inr (fun _ => none)))))) :: (rd, .inr (3, [.ref ri, .ref rl, .int 0, .int 0, .int 0, .int (-1), .int 0, .int 0])) :: (ri, .inl (cI, 132, .inl (fun _ => 0))) :: (rl, .inl (cI, 160, .inl (fun _ => 0))) :: (mv, .inr (1, [.ref mb, .int 0, .int 0, .int 0, .int 0])) :: (mb, .inl (cI, 20, .inl (fun _ => 0))) :: (xr, .inl (cI, 8, .inl (fun _ => 0))) :: ((sh 0), .inr (4, [.ref (el 0), .int (-1), .int 0])) :: ((el 0), .inl (cJ, 160, .inr (.inl (fun _ => 0)))) :: ((sh 1), .inr (4, [.ref (el 1), .int (-1), .int 0])) :: ((el 1), .inl (cJ, 160, .inr (.inl (fun _ => 0)))) :: ((sh 2), .inr (4, [.ref (el 2), .int (-1), .int 0])) :: ((el 2), .inl (cJ, 160, .inr (.inl (fun _ => 0)))) :: ((sh 3), .inr (4, [.ref (el 3), .int (-1), .int 0])) :: ((el 3), .inl (cJ, 160, .inr (.inl (fun _ => 0)))) :: ((sh 4), .inr (4, [.ref (el 4), .int (-1), .int 0])) :: ((el 4), .inl (cJ, 160, .inr (.inl (fun _ => 0)))) :: ((sh 5), .inr (4, [.ref (el 5), .int (-1), .int 0])) :: ((el 5), .inl (cJ, 160, .inr (.inl (fun _ => 0)))) :: ((sh 6), .inr (4, [.ref (el 6), .int (-1), .int 0])) :: ((el 6), .inl (cJ, 160, .inr (.inl (fun _ => 0)))) :: ((sh 7), .inr (4, [.ref (el 7), .int (-1), .int 0])) :: ((el 7), .inl (cJ, 160, .inr (.inl (fun _ => 0)))) :: (m0, .inr (8, (.int 0 :: .int 20 :: .int 0 :: .int 0 :: .int 0 :: .int 60 :: .int 0 :: .int 3 :: .int 1 :: .int (-1) :: .ref mrf :: .ref mki :: .ref mpa :: .ref mta :: .ref mla :: .ref msl :: .ref mco :: .ref mhe :: .ref mso :: .ref msi :: .ref msh :: .ref mce :: .ref mca :: .ref mwo :: .ref mnu :: .ref mte :: .int 0 :: .int 0 :: .int 0 :: .int 0 :: .int 0 :: .ref mwa :: .ref mke :: .ref mma :: .ref mth :: .ref mtr :: .int 0 :: .int 0 :: []))) :: (mrf, .inl (cI, 8, .inl (fun _ => 0))) :: (mki, .inl (cI, 8, .inl (fun _ => 0))) :: (mpa, .inl (cI, 8, .inl (fun _ => 0))) :: (mta, .inl (cI, 8, .inl (fun _ => 0))) :: (mla, .inl (cI, 40, .inl (fun _ => 0))) :: (msl, .inl (cI, 40, .inl (fun _ => 0))) :: (mco, .inl (cI, 3, .inl (zL3 5 10 50))) :: (mhe, .inl (cI, 8, .inl (fun _ => 0))) :: (mso, .inl (cI, 8, .inl (fun _ => 0))) :: (msi, .inl (cI, 8, .inl (fun _ => 0))) :: (msh, .inl (cI, 8, .inl (fun _ => 0))) :: (mce, .inl (cJ, 1280, .inr (.inl (fun _ => 0)))) :: (mca, .inl (cJ, 160, .inr (.inl (fun _ => 0)))) :: (mwo, .inl (cI, 64, .inl fw_)) :: (mnu, .inl (cI, 10, .inl fn_)) :: (mte, .inl (cI, 3, .inl (fun _ => 0))) :: (mwa, .inl (cI, 130, .inl (fun _ => 0))) :: (mke, .inl (cI, 130, .inl (fun _ => 0))) :: (mma, .inl (cI, 3, .inl (fun _ => 0))) :: (mth, .inl (cI, 3, .inl (fun _ => 0))) :: (mtr, .inl (cI, 20, .inl (fun _ => 0))) :: []) := hD
  refine lv_aload_n hx hb dL_law_1062 rfl (lv_at hl 2 rfl) ?_
  refine lv_aload_n hx hb dL_law_1063 rfl (lv_at hl 3 rfl) ?_
  refine lv_iload_n hx hb dL_law_1064 rfl (lv_at hl 0 rfl) ?_
  refine lv_iconst (v := 1) hx hb dL_law_1065 (by decide) ?_
  refine lv_iadd hx hb dL_law_1066 ?_
  refine lv_topi (fun y_1 ey_1 => ?_)
  obtain rfl : y_1 = 1 := ey_1.trans (by decide)
  refine va_sld hx hb hX hbl hbA hS (zf_in (by decide) (by decide)) dL_law_1067 ?_
  refine lv_topi (fun a_3 ea_3 => ?_)
  refine lv_aload_n hx hb dL_law_1068 rfl (lv_at hl 3 rfl) ?_
  refine lv_iload_n hx hb dL_law_1069 rfl (lv_at hl 0 rfl) ?_
  refine lv_iconst (v := 2) hx hb dL_law_1070 (by decide) ?_
  refine lv_iadd hx hb dL_law_1071 ?_
  refine lv_topi (fun y_4 ey_4 => ?_)
  obtain rfl : y_4 = 2 := ey_4.trans (by decide)
  refine va_sld hx hb hX hbl hbA hS (zf_in (by decide) (by decide)) dL_law_1072 ?_
  refine lv_topi (fun a_6 ea_6 => ?_)
  skip
  refine zw_V (As := [.int a_3, .int a_6]) (rest := []) (wr := ((m0, .inr (8, (.int 0 :: .int 20 :: .int 0 :: .int 0 :: .int 0 :: .int 60 :: .int 0 :: .int 3 :: .int 1 :: .int (-1) :: .ref mrf :: .ref mki :: .ref mpa :: .ref mta :: .ref mla :: .ref msl :: .ref mco :: .ref mhe :: .ref mso :: .ref msi :: .ref msh :: .ref mce :: .ref mca :: .ref mwo :: .ref mnu :: .ref mte :: .int 0 :: .int 0 :: .int 0 :: .int 0 :: .int 0 :: .ref mwa :: .ref mke :: .ref mma :: .ref mth :: .ref mtr :: .int 0 :: .int 0 :: []))) :: (mrf, .inl (cI, 8, .inl (fun _ => 0))) :: (mki, .inl (cI, 8, .inl (fun _ => 0))) :: (mpa, .inl (cI, 8, .inl (fun _ => 0))) :: (mta, .inl (cI, 8, .inl (fun _ => 0))) :: (mla, .inl (cI, 40, .inl (fun _ => 0))) :: (msl, .inl (cI, 40, .inl (fun _ => 0))) :: (mco, .inl (cI, 3, .inl (zL3 5 10 50))) :: (mhe, .inl (cI, 8, .inl (fun _ => 0))) :: (mso, .inl (cI, 8, .inl (fun _ => 0))) :: (msi, .inl (cI, 8, .inl (fun _ => 0))) :: (msh, .inl (cI, 8, .inl (fun _ => 0))) :: (mce, .inl (cJ, 1280, .inr (.inl (fun _ => 0)))) :: (mca, .inl (cJ, 160, .inr (.inl (fun _ => 0)))) :: (mwo, .inl (cI, 64, .inl fw_)) :: (mnu, .inl (cI, 10, .inl fn_)) :: (mte, .inl (cI, 3, .inl (fun _ => 0))) :: (mwa, .inl (cI, 130, .inl (fun _ => 0))) :: (mke, .inl (cI, 130, .inl (fun _ => 0))) :: (mma, .inl (cI, 3, .inl (fun _ => 0))) :: (mth, .inl (cI, 3, .inl (fun _ => 0))) :: (mtr, .inl (cI, 20, .inl (fun _ => 0))) :: [])) ⟨hx, hb, hml, hown, hts⟩ (c_judge l D cI cJ cZ cP cS x0 xs j0 k0 w0 rd mv xr sh el jp jc z0 0 0 (a_3) (a_6)  H.size) (cwV 2 hts gq_123 rfl rfl rfl (by decide +kernel) ⟨Nat.le_of_ble_eq_true rfl, Nat.le_of_ble_eq_true rfl⟩) hK hN (hZ.kept hS) hP hD hS hA [0, 24, 1, 25, 27, 29, 31, 33, 35, 37, 39, 2] [41, 42, 43, 44, 45, 46, 47, 48, 49, 50, 51, 52, 53, 54, 55, 56, 57, 58, 59, 60, 61, 62] rfl rfl (by decide) (by decide) (by decide) (va_recv hK hP (ci := 7) (q0 := 0) rfl rfl) rfl hl.1 rfl (Nat.le_of_ble_eq_true rfl) dL_law_1073 ⟨Nat.le_of_ble_eq_true rfl, Nat.le_of_ble_eq_true rfl⟩ (fun r_7 u_8 H locs hr_7 hP hD hS => ?_)
  replace hP : va_P D vwCl ((m0, .inr (8, (.int 0 :: .int 20 :: .int 0 :: .int 0 :: .int 0 :: .int 60 :: .int 0 :: .int 3 :: .int 1 :: .int (-1) :: .ref mrf :: .ref mki :: .ref mpa :: .ref mta :: .ref mla :: .ref msl :: .ref mco :: .ref mhe :: .ref mso :: .ref msi :: .ref msh :: .ref mce :: .ref mca :: .ref mwo :: .ref mnu :: .ref mte :: .int 0 :: .int 0 :: .int 0 :: .int 0 :: .int 0 :: .ref mwa :: .ref mke :: .ref mma :: .ref mth :: .ref mtr :: .int 0 :: .int 0 :: []))) :: (mrf, .inl (cI, 8, .inl (fun _ => 0))) :: (mki, .inl (cI, 8, .inl (fun _ => 0))) :: (mpa, .inl (cI, 8, .inl (fun _ => 0))) :: (mta, .inl (cI, 8, .inl (fun _ => 0))) :: (mla, .inl (cI, 40, .inl (fun _ => 0))) :: (msl, .inl (cI, 40, .inl (fun _ => 0))) :: (mco, .inl (cI, 3, .inl (zL3 5 10 50))) :: (mhe, .inl (cI, 8, .inl (fun _ => 0))) :: (mso, .inl (cI, 8, .inl (fun _ => 0))) :: (msi, .inl (cI, 8, .inl (fun _ => 0))) :: (msh, .inl (cI, 8, .inl (fun _ => 0))) :: (mce, .inl (cJ, 1280, .inr (.inl (fun _ => 0)))) :: (mca, .inl (cJ, 160, .inr (.inl (fun _ => 0)))) :: (mwo, .inl (cI, 64, .inl fw_)) :: (mnu, .inl (cI, 10, .inl fn_)) :: (mte, .inl (cI, 3, .inl (fun _ => 0))) :: (mwa, .inl (cI, 130, .inl (fun _ => 0))) :: (mke, .inl (cI, 130, .inl (fun _ => 0))) :: (mma, .inl (cI, 3, .inl (fun _ => 0))) :: (mth, .inl (cI, 3, .inl (fun _ => 0))) :: (mtr, .inl (cI, 20, .inl (fun _ => 0))) :: []) H := hP
  replace hD : va_D _ ((m0, .inr (8, (.int 0 :: .int 20 :: .int 0 :: .int 0 :: .int 0 :: .int 60 :: .int 0 :: .int 3 :: .int 1 :: .int (-1) :: .ref mrf :: .ref mki :: .ref mpa :: .ref mta :: .ref mla :: .ref msl :: .ref mco :: .ref mhe :: .ref mso :: .ref msi :: .ref msh :: .ref mce :: .ref mca :: .ref mwo :: .ref mnu :: .ref mte :: .int 0 :: .int 0 :: .int 0 :: .int 0 :: .int 0 :: .ref mwa :: .ref mke :: .ref mma :: .ref mth :: .ref mtr :: .int 0 :: .int 0 :: []))) :: (mrf, .inl (cI, 8, .inl (fun _ => 0))) :: (mki, .inl (cI, 8, .inl (fun _ => 0))) :: (mpa, .inl (cI, 8, .inl (fun _ => 0))) :: (mta, .inl (cI, 8, .inl (fun _ => 0))) :: (mla, .inl (cI, 40, .inl (fun _ => 0))) :: (msl, .inl (cI, 40, .inl (fun _ => 0))) :: (mco, .inl (cI, 3, .inl (zL3 5 10 50))) :: (mhe, .inl (cI, 8, .inl (fun _ => 0))) :: (mso, .inl (cI, 8, .inl (fun _ => 0))) :: (msi, .inl (cI, 8, .inl (fun _ => 0))) :: (msh, .inl (cI, 8, .inl (fun _ => 0))) :: (mce, .inl (cJ, 1280, .inr (.inl (fun _ => 0)))) :: (mca, .inl (cJ, 160, .inr (.inl (fun _ => 0)))) :: (mwo, .inl (cI, 64, .inl fw_)) :: (mnu, .inl (cI, 10, .inl fn_)) :: (mte, .inl (cI, 3, .inl (fun _ => 0))) :: (mwa, .inl (cI, 130, .inl (fun _ => 0))) :: (mke, .inl (cI, 130, .inl (fun _ => 0))) :: (mma, .inl (cI, 3, .inl (fun _ => 0))) :: (mth, .inl (cI, 3, .inl (fun _ => 0))) :: (mtr, .inl (cI, 20, .inl (fun _ => 0))) :: []) := hD
  rcases hr_7 with ⟨rfl, g_9⟩ | ⟨rfl, g_10, g_11⟩ | ⟨rfl, g_12, g_13⟩
  · refine lv_aload_n hx hb dL_law_1076 rfl (lv_at hl 1 rfl) ?_
    refine lv_aload_n hx hb dL_law_1077 rfl (lv_at hl 3 rfl) ?_
    refine lv_iload_n hx hb dL_law_1078 rfl (lv_at hl 0 rfl) ?_
    refine lv_iconst (v := 1) hx hb dL_law_1079 (by decide) ?_
    refine lv_iadd hx hb dL_law_1080 ?_
    refine lv_topi (fun y_14 ey_14 => ?_)
    obtain rfl : y_14 = 1 := ey_14.trans (by decide)
    refine va_sld hx hb hX hbl hbA hS (zf_in (by decide) (by decide)) dL_law_1081 ?_
    refine lv_topi (fun y_15 ey_15 => ?_)
    obtain rfl : a_3 = y_15 := ea_3.trans ey_15.symm
    refine lv_aload_n hx hb dL_law_1082 rfl (lv_at hl 3 rfl) ?_
    refine lv_iload_n hx hb dL_law_1083 rfl (lv_at hl 0 rfl) ?_
    refine lv_iconst (v := 2) hx hb dL_law_1084 (by decide) ?_
    refine lv_iadd hx hb dL_law_1085 ?_
    refine lv_topi (fun y_16 ey_16 => ?_)
    obtain rfl : y_16 = 2 := ey_16.trans (by decide)
    refine va_sld hx hb hX hbl hbA hS (zf_in (by decide) (by decide)) dL_law_1086 ?_
    refine lv_topi (fun y_17 ey_17 => ?_)
    obtain rfl : a_6 = y_17 := ea_6.trans ey_17.symm
    skip
    refine zw_V (As := [.int a_3, .int a_6]) (rest := [.int (-11)]) (wr := [(mki, .inl (cI, 8, .inl (fun _ => 0))), (mpa, .inl (cI, 8, .inl (fun _ => 0))), (mta, .inl (cI, 8, .inl (fun _ => 0))), (mla, .inl (cI, 40, .inl (fun _ => 0))), (msl, .inl (cI, 40, .inl (fun _ => 0))), (mco, .inl (cI, 3, .inl (zL3 5 10 50))), (mso, .inl (cI, 8, .inl (fun _ => 0))), (msi, .inl (cI, 8, .inl (fun _ => 0))), (msh, .inl (cI, 8, .inl (fun _ => 0))), (mce, .inl (cJ, 1280, .inr (.inl (fun _ => 0)))), (mca, .inl (cJ, 160, .inr (.inl (fun _ => 0)))), (mwo, .inl (cI, 64, .inl fw_)), (mnu, .inl (cI, 10, .inl fn_)), (mte, .inl (cI, 3, .inl (fun _ => 0))), (mwa, .inl (cI, 130, .inl (fun _ => 0))), (mke, .inl (cI, 130, .inl (fun _ => 0))), (mma, .inl (cI, 3, .inl (fun _ => 0))), (mth, .inl (cI, 3, .inl (fun _ => 0))), (mtr, .inl (cI, 20, .inl (fun _ => 0)))]) ⟨hx, hb, hml, hown, hts⟩ (c_M_judge l D cI cJ cZ cP cS m0 mrf mki mpa mta mla msl mco mhe mso msi msh mce mca mwo mnu mte mwa mke mma mth mtr (a_3) (a_6)  H.size) (cwV 2 hts gq_126 rfl rfl rfl (by decide +kernel) ⟨Nat.le_of_ble_eq_true rfl, Nat.le_of_ble_eq_true rfl⟩) hK hN (hZ.kept hS) hP hD hS hA [0, 1, 8] [2, 3, 4, 5, 6, 7, 9, 10, 11, 12, 13, 14, 15, 16, 17, 18, 19, 20, 21] rfl rfl (by decide) (by decide) (by decide) (va_recv hK hP (ci := 8) (q0 := 0) rfl rfl) rfl hl.1 rfl (Nat.le_of_ble_eq_true rfl) dL_law_1087 ⟨Nat.le_of_ble_eq_true rfl, Nat.le_of_ble_eq_true rfl⟩ (fun r_18 u_19 H locs hr_18 hP hD hS => ?_)
    replace hP : va_P D vwCl [(mki, .inl (cI, 8, .inl (fun _ => 0))), (mpa, .inl (cI, 8, .inl (fun _ => 0))), (mta, .inl (cI, 8, .inl (fun _ => 0))), (mla, .inl (cI, 40, .inl (fun _ => 0))), (msl, .inl (cI, 40, .inl (fun _ => 0))), (mco, .inl (cI, 3, .inl (zL3 5 10 50))), (mso, .inl (cI, 8, .inl (fun _ => 0))), (msi, .inl (cI, 8, .inl (fun _ => 0))), (msh, .inl (cI, 8, .inl (fun _ => 0))), (mce, .inl (cJ, 1280, .inr (.inl (fun _ => 0)))), (mca, .inl (cJ, 160, .inr (.inl (fun _ => 0)))), (mwo, .inl (cI, 64, .inl fw_)), (mnu, .inl (cI, 10, .inl fn_)), (mte, .inl (cI, 3, .inl (fun _ => 0))), (mwa, .inl (cI, 130, .inl (fun _ => 0))), (mke, .inl (cI, 130, .inl (fun _ => 0))), (mma, .inl (cI, 3, .inl (fun _ => 0))), (mth, .inl (cI, 3, .inl (fun _ => 0))), (mtr, .inl (cI, 20, .inl (fun _ => 0)))] H := hP
    replace hD : va_D _ [(mki, .inl (cI, 8, .inl (fun _ => 0))), (mpa, .inl (cI, 8, .inl (fun _ => 0))), (mta, .inl (cI, 8, .inl (fun _ => 0))), (mla, .inl (cI, 40, .inl (fun _ => 0))), (msl, .inl (cI, 40, .inl (fun _ => 0))), (mco, .inl (cI, 3, .inl (zL3 5 10 50))), (mso, .inl (cI, 8, .inl (fun _ => 0))), (msi, .inl (cI, 8, .inl (fun _ => 0))), (msh, .inl (cI, 8, .inl (fun _ => 0))), (mce, .inl (cJ, 1280, .inr (.inl (fun _ => 0)))), (mca, .inl (cJ, 160, .inr (.inl (fun _ => 0)))), (mwo, .inl (cI, 64, .inl fw_)), (mnu, .inl (cI, 10, .inl fn_)), (mte, .inl (cI, 3, .inl (fun _ => 0))), (mwa, .inl (cI, 130, .inl (fun _ => 0))), (mke, .inl (cI, 130, .inl (fun _ => 0))), (mma, .inl (cI, 3, .inl (fun _ => 0))), (mth, .inl (cI, 3, .inl (fun _ => 0))), (mtr, .inl (cI, 20, .inl (fun _ => 0)))] := hD
    rcases hr_18 with ⟨rfl, g_20⟩ | ⟨rfl, g_21, g_22⟩ | ⟨rfl, g_23, g_24⟩
    · refine lv_icmp_eq (tgt := 1371) hx hb dL_law_1090 (by decide) (fun c_25 => ?_) (fun c_25 => ?_)
      · refine lv_iinc (v := 6) (lv' := [(3, .int 6), (2, .ref m0), (1, .ref x0), (0, .ref b)]) hx hb dL_law_1371 hl (k := 0) rfl (by decide) (by decide) rfl (fun ls hl => ?_)
        refine lv_goto (tgt := 18) hx hb dL_law_1374 (by decide) ?_
        refine lv_iload_n hx hb dL_law_18 rfl (lv_at hl 0 rfl) ?_
        refine lv_aload_n hx hb dL_law_19 rfl (lv_at hl 3 rfl) ?_
        refine va_slen hx hb hX hbl hbA hS dL_law_20 ?_
        refine lv_topi (fun y_26 ey_26 => ?_)
        obtain rfl : y_26 = 6 := ey_26.trans (by decide)
        refine lv_bipush (v := 6) hx hb dL_law_21 (by decide) ?_
        refine lv_isub hx hb dL_law_23 ?_
        refine lv_topi (fun y_27 ey_27 => ?_)
        obtain rfl : y_27 = 0 := ey_27.trans (by decide)
        refine lv_icmp_gt (tgt := 1377) hx hb dL_law_24 (by decide) (fun c_28 => ?_) (fun c_28 => ?_)
        · refine lv_iconst (v := 1) hx hb dL_law_1377 (by decide) ?_
          refine va_forget (fun q hq => hS.2.2 q hq) ?_
          refine W.widen (k := 600000) (n := 7302250) (Nat.le_of_ble_eq_true rfl) (Nat.le_of_ble_eq_true rfl) ?_
          exact lw_ret hx hb hr hlocks dL_law_1378
        · exact absurd c_28 (by decide)
      · exact absurd c_25 (by decide)
    · exfalso; omega
    · exfalso; omega
  · refine lv_aload_n hx hb dL_law_1076 rfl (lv_at hl 1 rfl) ?_
    refine lv_aload_n hx hb dL_law_1077 rfl (lv_at hl 3 rfl) ?_
    refine lv_iload_n hx hb dL_law_1078 rfl (lv_at hl 0 rfl) ?_
    refine lv_iconst (v := 1) hx hb dL_law_1079 (by decide) ?_
    refine lv_iadd hx hb dL_law_1080 ?_
    refine lv_topi (fun y_29 ey_29 => ?_)
    obtain rfl : y_29 = 1 := ey_29.trans (by decide)
    refine va_sld hx hb hX hbl hbA hS (zf_in (by decide) (by decide)) dL_law_1081 ?_
    refine lv_topi (fun y_30 ey_30 => ?_)
    obtain rfl : a_3 = y_30 := ea_3.trans ey_30.symm
    refine lv_aload_n hx hb dL_law_1082 rfl (lv_at hl 3 rfl) ?_
    refine lv_iload_n hx hb dL_law_1083 rfl (lv_at hl 0 rfl) ?_
    refine lv_iconst (v := 2) hx hb dL_law_1084 (by decide) ?_
    refine lv_iadd hx hb dL_law_1085 ?_
    refine lv_topi (fun y_31 ey_31 => ?_)
    obtain rfl : y_31 = 2 := ey_31.trans (by decide)
    refine va_sld hx hb hX hbl hbA hS (zf_in (by decide) (by decide)) dL_law_1086 ?_
    refine lv_topi (fun y_32 ey_32 => ?_)
    obtain rfl : a_6 = y_32 := ea_6.trans ey_32.symm
    skip
    refine zw_V (As := [.int a_3, .int a_6]) (rest := [.int (-11)]) (wr := [(mki, .inl (cI, 8, .inl (fun _ => 0))), (mpa, .inl (cI, 8, .inl (fun _ => 0))), (mta, .inl (cI, 8, .inl (fun _ => 0))), (mla, .inl (cI, 40, .inl (fun _ => 0))), (msl, .inl (cI, 40, .inl (fun _ => 0))), (mco, .inl (cI, 3, .inl (zL3 5 10 50))), (mso, .inl (cI, 8, .inl (fun _ => 0))), (msi, .inl (cI, 8, .inl (fun _ => 0))), (msh, .inl (cI, 8, .inl (fun _ => 0))), (mce, .inl (cJ, 1280, .inr (.inl (fun _ => 0)))), (mca, .inl (cJ, 160, .inr (.inl (fun _ => 0)))), (mwo, .inl (cI, 64, .inl fw_)), (mnu, .inl (cI, 10, .inl fn_)), (mte, .inl (cI, 3, .inl (fun _ => 0))), (mwa, .inl (cI, 130, .inl (fun _ => 0))), (mke, .inl (cI, 130, .inl (fun _ => 0))), (mma, .inl (cI, 3, .inl (fun _ => 0))), (mth, .inl (cI, 3, .inl (fun _ => 0))), (mtr, .inl (cI, 20, .inl (fun _ => 0)))]) ⟨hx, hb, hml, hown, hts⟩ (c_M_judge l D cI cJ cZ cP cS m0 mrf mki mpa mta mla msl mco mhe mso msi msh mce mca mwo mnu mte mwa mke mma mth mtr (a_3) (a_6)  H.size) (cwV 2 hts gq_126 rfl rfl rfl (by decide +kernel) ⟨Nat.le_of_ble_eq_true rfl, Nat.le_of_ble_eq_true rfl⟩) hK hN (hZ.kept hS) hP hD hS hA [0, 1, 8] [2, 3, 4, 5, 6, 7, 9, 10, 11, 12, 13, 14, 15, 16, 17, 18, 19, 20, 21] rfl rfl (by decide) (by decide) (by decide) (va_recv hK hP (ci := 8) (q0 := 0) rfl rfl) rfl hl.1 rfl (Nat.le_of_ble_eq_true rfl) dL_law_1087 ⟨Nat.le_of_ble_eq_true rfl, Nat.le_of_ble_eq_true rfl⟩ (fun r_33 u_34 H locs hr_33 hP hD hS => ?_)
    replace hP : va_P D vwCl [(mki, .inl (cI, 8, .inl (fun _ => 0))), (mpa, .inl (cI, 8, .inl (fun _ => 0))), (mta, .inl (cI, 8, .inl (fun _ => 0))), (mla, .inl (cI, 40, .inl (fun _ => 0))), (msl, .inl (cI, 40, .inl (fun _ => 0))), (mco, .inl (cI, 3, .inl (zL3 5 10 50))), (mso, .inl (cI, 8, .inl (fun _ => 0))), (msi, .inl (cI, 8, .inl (fun _ => 0))), (msh, .inl (cI, 8, .inl (fun _ => 0))), (mce, .inl (cJ, 1280, .inr (.inl (fun _ => 0)))), (mca, .inl (cJ, 160, .inr (.inl (fun _ => 0)))), (mwo, .inl (cI, 64, .inl fw_)), (mnu, .inl (cI, 10, .inl fn_)), (mte, .inl (cI, 3, .inl (fun _ => 0))), (mwa, .inl (cI, 130, .inl (fun _ => 0))), (mke, .inl (cI, 130, .inl (fun _ => 0))), (mma, .inl (cI, 3, .inl (fun _ => 0))), (mth, .inl (cI, 3, .inl (fun _ => 0))), (mtr, .inl (cI, 20, .inl (fun _ => 0)))] H := hP
    replace hD : va_D _ [(mki, .inl (cI, 8, .inl (fun _ => 0))), (mpa, .inl (cI, 8, .inl (fun _ => 0))), (mta, .inl (cI, 8, .inl (fun _ => 0))), (mla, .inl (cI, 40, .inl (fun _ => 0))), (msl, .inl (cI, 40, .inl (fun _ => 0))), (mco, .inl (cI, 3, .inl (zL3 5 10 50))), (mso, .inl (cI, 8, .inl (fun _ => 0))), (msi, .inl (cI, 8, .inl (fun _ => 0))), (msh, .inl (cI, 8, .inl (fun _ => 0))), (mce, .inl (cJ, 1280, .inr (.inl (fun _ => 0)))), (mca, .inl (cJ, 160, .inr (.inl (fun _ => 0)))), (mwo, .inl (cI, 64, .inl fw_)), (mnu, .inl (cI, 10, .inl fn_)), (mte, .inl (cI, 3, .inl (fun _ => 0))), (mwa, .inl (cI, 130, .inl (fun _ => 0))), (mke, .inl (cI, 130, .inl (fun _ => 0))), (mma, .inl (cI, 3, .inl (fun _ => 0))), (mth, .inl (cI, 3, .inl (fun _ => 0))), (mtr, .inl (cI, 20, .inl (fun _ => 0)))] := hD
    rcases hr_33 with ⟨rfl, g_35⟩ | ⟨rfl, g_36, g_37⟩ | ⟨rfl, g_38, g_39⟩
    · exfalso; omega
    · refine lv_icmp_eq (tgt := 1371) hx hb dL_law_1090 (by decide) (fun c_40 => ?_) (fun c_40 => ?_)
      · refine lv_iinc (v := 6) (lv' := [(3, .int 6), (2, .ref m0), (1, .ref x0), (0, .ref b)]) hx hb dL_law_1371 hl (k := 0) rfl (by decide) (by decide) rfl (fun ls hl => ?_)
        refine lv_goto (tgt := 18) hx hb dL_law_1374 (by decide) ?_
        refine lv_iload_n hx hb dL_law_18 rfl (lv_at hl 0 rfl) ?_
        refine lv_aload_n hx hb dL_law_19 rfl (lv_at hl 3 rfl) ?_
        refine va_slen hx hb hX hbl hbA hS dL_law_20 ?_
        refine lv_topi (fun y_41 ey_41 => ?_)
        obtain rfl : y_41 = 6 := ey_41.trans (by decide)
        refine lv_bipush (v := 6) hx hb dL_law_21 (by decide) ?_
        refine lv_isub hx hb dL_law_23 ?_
        refine lv_topi (fun y_42 ey_42 => ?_)
        obtain rfl : y_42 = 0 := ey_42.trans (by decide)
        refine lv_icmp_gt (tgt := 1377) hx hb dL_law_24 (by decide) (fun c_43 => ?_) (fun c_43 => ?_)
        · refine lv_iconst (v := 1) hx hb dL_law_1377 (by decide) ?_
          refine va_forget (fun q hq => hS.2.2 q hq) ?_
          refine W.widen (k := 600000) (n := 7302250) (Nat.le_of_ble_eq_true rfl) (Nat.le_of_ble_eq_true rfl) ?_
          exact lw_ret hx hb hr hlocks dL_law_1378
        · exact absurd c_43 (by decide)
      · exact absurd c_40 (by decide)
    · exfalso; omega
  · refine lv_aload_n hx hb dL_law_1076 rfl (lv_at hl 1 rfl) ?_
    refine lv_aload_n hx hb dL_law_1077 rfl (lv_at hl 3 rfl) ?_
    refine lv_iload_n hx hb dL_law_1078 rfl (lv_at hl 0 rfl) ?_
    refine lv_iconst (v := 1) hx hb dL_law_1079 (by decide) ?_
    refine lv_iadd hx hb dL_law_1080 ?_
    refine lv_topi (fun y_44 ey_44 => ?_)
    obtain rfl : y_44 = 1 := ey_44.trans (by decide)
    refine va_sld hx hb hX hbl hbA hS (zf_in (by decide) (by decide)) dL_law_1081 ?_
    refine lv_topi (fun y_45 ey_45 => ?_)
    obtain rfl : a_3 = y_45 := ea_3.trans ey_45.symm
    refine lv_aload_n hx hb dL_law_1082 rfl (lv_at hl 3 rfl) ?_
    refine lv_iload_n hx hb dL_law_1083 rfl (lv_at hl 0 rfl) ?_
    refine lv_iconst (v := 2) hx hb dL_law_1084 (by decide) ?_
    refine lv_iadd hx hb dL_law_1085 ?_
    refine lv_topi (fun y_46 ey_46 => ?_)
    obtain rfl : y_46 = 2 := ey_46.trans (by decide)
    refine va_sld hx hb hX hbl hbA hS (zf_in (by decide) (by decide)) dL_law_1086 ?_
    refine lv_topi (fun y_47 ey_47 => ?_)
    obtain rfl : a_6 = y_47 := ea_6.trans ey_47.symm
    skip
    refine zw_V (As := [.int a_3, .int a_6]) (rest := [.int (-13)]) (wr := [(mki, .inl (cI, 8, .inl (fun _ => 0))), (mpa, .inl (cI, 8, .inl (fun _ => 0))), (mta, .inl (cI, 8, .inl (fun _ => 0))), (mla, .inl (cI, 40, .inl (fun _ => 0))), (msl, .inl (cI, 40, .inl (fun _ => 0))), (mco, .inl (cI, 3, .inl (zL3 5 10 50))), (mso, .inl (cI, 8, .inl (fun _ => 0))), (msi, .inl (cI, 8, .inl (fun _ => 0))), (msh, .inl (cI, 8, .inl (fun _ => 0))), (mce, .inl (cJ, 1280, .inr (.inl (fun _ => 0)))), (mca, .inl (cJ, 160, .inr (.inl (fun _ => 0)))), (mwo, .inl (cI, 64, .inl fw_)), (mnu, .inl (cI, 10, .inl fn_)), (mte, .inl (cI, 3, .inl (fun _ => 0))), (mwa, .inl (cI, 130, .inl (fun _ => 0))), (mke, .inl (cI, 130, .inl (fun _ => 0))), (mma, .inl (cI, 3, .inl (fun _ => 0))), (mth, .inl (cI, 3, .inl (fun _ => 0))), (mtr, .inl (cI, 20, .inl (fun _ => 0)))]) ⟨hx, hb, hml, hown, hts⟩ (c_M_judge l D cI cJ cZ cP cS m0 mrf mki mpa mta mla msl mco mhe mso msi msh mce mca mwo mnu mte mwa mke mma mth mtr (a_3) (a_6)  H.size) (cwV 2 hts gq_126 rfl rfl rfl (by decide +kernel) ⟨Nat.le_of_ble_eq_true rfl, Nat.le_of_ble_eq_true rfl⟩) hK hN (hZ.kept hS) hP hD hS hA [0, 1, 8] [2, 3, 4, 5, 6, 7, 9, 10, 11, 12, 13, 14, 15, 16, 17, 18, 19, 20, 21] rfl rfl (by decide) (by decide) (by decide) (va_recv hK hP (ci := 8) (q0 := 0) rfl rfl) rfl hl.1 rfl (Nat.le_of_ble_eq_true rfl) dL_law_1087 ⟨Nat.le_of_ble_eq_true rfl, Nat.le_of_ble_eq_true rfl⟩ (fun r_48 u_49 H locs hr_48 hP hD hS => ?_)
    replace hP : va_P D vwCl [(mki, .inl (cI, 8, .inl (fun _ => 0))), (mpa, .inl (cI, 8, .inl (fun _ => 0))), (mta, .inl (cI, 8, .inl (fun _ => 0))), (mla, .inl (cI, 40, .inl (fun _ => 0))), (msl, .inl (cI, 40, .inl (fun _ => 0))), (mco, .inl (cI, 3, .inl (zL3 5 10 50))), (mso, .inl (cI, 8, .inl (fun _ => 0))), (msi, .inl (cI, 8, .inl (fun _ => 0))), (msh, .inl (cI, 8, .inl (fun _ => 0))), (mce, .inl (cJ, 1280, .inr (.inl (fun _ => 0)))), (mca, .inl (cJ, 160, .inr (.inl (fun _ => 0)))), (mwo, .inl (cI, 64, .inl fw_)), (mnu, .inl (cI, 10, .inl fn_)), (mte, .inl (cI, 3, .inl (fun _ => 0))), (mwa, .inl (cI, 130, .inl (fun _ => 0))), (mke, .inl (cI, 130, .inl (fun _ => 0))), (mma, .inl (cI, 3, .inl (fun _ => 0))), (mth, .inl (cI, 3, .inl (fun _ => 0))), (mtr, .inl (cI, 20, .inl (fun _ => 0)))] H := hP
    replace hD : va_D _ [(mki, .inl (cI, 8, .inl (fun _ => 0))), (mpa, .inl (cI, 8, .inl (fun _ => 0))), (mta, .inl (cI, 8, .inl (fun _ => 0))), (mla, .inl (cI, 40, .inl (fun _ => 0))), (msl, .inl (cI, 40, .inl (fun _ => 0))), (mco, .inl (cI, 3, .inl (zL3 5 10 50))), (mso, .inl (cI, 8, .inl (fun _ => 0))), (msi, .inl (cI, 8, .inl (fun _ => 0))), (msh, .inl (cI, 8, .inl (fun _ => 0))), (mce, .inl (cJ, 1280, .inr (.inl (fun _ => 0)))), (mca, .inl (cJ, 160, .inr (.inl (fun _ => 0)))), (mwo, .inl (cI, 64, .inl fw_)), (mnu, .inl (cI, 10, .inl fn_)), (mte, .inl (cI, 3, .inl (fun _ => 0))), (mwa, .inl (cI, 130, .inl (fun _ => 0))), (mke, .inl (cI, 130, .inl (fun _ => 0))), (mma, .inl (cI, 3, .inl (fun _ => 0))), (mth, .inl (cI, 3, .inl (fun _ => 0))), (mtr, .inl (cI, 20, .inl (fun _ => 0)))] := hD
    rcases hr_48 with ⟨rfl, g_50⟩ | ⟨rfl, g_51, g_52⟩ | ⟨rfl, g_53, g_54⟩
    · exfalso; omega
    · exfalso; omega
    · refine lv_icmp_eq (tgt := 1371) hx hb dL_law_1090 (by decide) (fun c_55 => ?_) (fun c_55 => ?_)
      · refine lv_iinc (v := 6) (lv' := [(3, .int 6), (2, .ref m0), (1, .ref x0), (0, .ref b)]) hx hb dL_law_1371 hl (k := 0) rfl (by decide) (by decide) rfl (fun ls hl => ?_)
        refine lv_goto (tgt := 18) hx hb dL_law_1374 (by decide) ?_
        refine lv_iload_n hx hb dL_law_18 rfl (lv_at hl 0 rfl) ?_
        refine lv_aload_n hx hb dL_law_19 rfl (lv_at hl 3 rfl) ?_
        refine va_slen hx hb hX hbl hbA hS dL_law_20 ?_
        refine lv_topi (fun y_56 ey_56 => ?_)
        obtain rfl : y_56 = 6 := ey_56.trans (by decide)
        refine lv_bipush (v := 6) hx hb dL_law_21 (by decide) ?_
        refine lv_isub hx hb dL_law_23 ?_
        refine lv_topi (fun y_57 ey_57 => ?_)
        obtain rfl : y_57 = 0 := ey_57.trans (by decide)
        refine lv_icmp_gt (tgt := 1377) hx hb dL_law_24 (by decide) (fun c_58 => ?_) (fun c_58 => ?_)
        · refine lv_iconst (v := 1) hx hb dL_law_1377 (by decide) ?_
          refine va_forget (fun q hq => hS.2.2 q hq) ?_
          refine W.widen (k := 600000) (n := 7302250) (Nat.le_of_ble_eq_true rfl) (Nat.le_of_ble_eq_true rfl) ?_
          exact lw_ret hx hb hr hlocks dL_law_1378
        · exact absurd c_58 (by decide)
      · exact absurd c_55 (by decide)
set_option maxHeartbeats 8000000 in
set_option maxRecDepth 100000 in
theorem law_case_26 {p : Program} {l : Launch} {e : Env} {s : State} {m : MethodId} {below : List Frame} {meth : Method} {c : Code} {D : va_G} {cI cJ cZ cP cS : ClassId} {b : Nat} {xs_ : Nat → Int32} (x0 xs j0 k0 w0 rd mv xr z0 jp jc zl zs kz kp kc kzl kzs wk wl wc wp ri rl mb m0 mrf mki mpa mta mla msl mco mhe mso msi msh mce mca mwo mnu mte mwa mke mma mth mtr : Nat) (sh el : Nat → Nat) (fw_ fn_ : Nat → Int32) (C0 : lw_At p s m meth c b 6 xs_) (hK : va_K D vwCl (zKT cI cJ cZ cP cS) s) (hN : zN s) (hZ : zSt (fun q : Nat => s.heap.size ≤ q) s s.heap) (H : Heap) (locs : List Loc) (hP : va_P D vwCl (zLW cI cJ cZ cP cS x0 xs j0 k0 w0 rd mv xr z0 jp jc zl zs kz kp kc kzl kzs wk wl wc wp ri rl mb m0 mrf mki mpa mta mla msl mco mhe mso msi msh mce mca mwo mnu mte mwa mke mma mth mtr sh el fw_ fn_) H) (hD : va_D (fun q : Nat => s.heap.size ≤ q) (zLW cI cJ cZ cP cS x0 xs j0 k0 w0 rd mv xr z0 jp jc zl zs kz kp kc kzl kzs wk wl wc wp ri rl mb m0 mrf mki mpa mta mla msl mco mhe mso msi msh mce mca mwo mnu mte mwa mke mma mth mtr sh el fw_ fn_)) (hS : va_S (fun q : Nat => s.heap.size ≤ q) s.heap H locs) (ls : Array Slot) (hl : lv_has ls 4 [(3, .int 0), (2, .ref m0), (1, .ref x0), (0, .ref b)]) : W p l e room_1 s m #[Value.ref b] below meth c H locs 100 10000 (lw_Z below #[Value.ref b] s) (F0 m 1095 ls []) := by
  obtain ⟨hx, hb, hr, hml, hown0, hts, hX, hbl, hlocks, hgv⟩ := id C0
  have hown : s.vm.findClass RL = some m.cls := hown0
  have hA : ∀ q : Nat, s.heap.size ≤ q → (fun q : Nat => s.heap.size ≤ q) q := fun _ h => h
  have hbA : ¬ (fun q : Nat => s.heap.size ≤ q) b := Nat.not_le.mpr hbl
  replace hP : va_P D vwCl ((x0, .inr (7, [.ref xs, .ref j0, .ref k0, .ref w0, .ref rd, .ref mv, .ref xr, .int 0, .int (-1)])) :: (xs, .inl (cS, 8, .inr (.inr (.inr (.inr (zS sh)))))) :: (j0, .inr (0, [.ref z0, .ref jp, .ref jc, .int 0, .int 0, .int 0, .int 60, .int 0, .int 1])) :: (z0, .inr (6, [.ref zl, .ref zs, .int 20, .int 0, .int 3])) :: (zl, .inl (cZ, 40, .inl (fun _ => 0))) :: (zs, .inl (cI, 40, .inl (fun _ => 0))) :: (jp, .inl (cP, 8, .inr (.inr (.inr (.inr (fun _ => none)))))) :: (jc, .inl (cI, 3, .inl (zL3 5 10 50))) :: (k0, .inr (0, [.ref kz, .ref kp, .ref kc, .int 0, .int 0, .int 0, .int 60, .int 0, .int 1])) :: (kz, .inr (6, [.ref kzl, .ref kzs, .int 20, .int 0, .int 3])) :: (kzl, .inl (cZ, 40, .inl (fun _ => 0))) :: (kzs, .inl (cI, 40, .inl (fun _ => 0))) :: (kp, .inl (cP, 8, .inr (.inr (.inr (.inr (fun _ => none)))))) :: (kc, .inl (cI, 3, .inl (zL3 5 10 50))) :: (w0, .inr (5, [.ref wk, .ref wl, .ref wc, .ref wp, .int 0, .int 0, .int 0])) :: (wk, .inl (cI, 125, .inl (fun _ => 0))) :: (wl, .inl (cI, 125, .inl (fun _ => 0))) :: (wc, .inl (cI, 3, .inl (fun _ => 0))) :: (wp, .inl (cP, 8, .inr (.inr (.inr (.inr (fun _ => none)))))) :: (rd, .inr (3, [.ref ri, .ref rl, .int 0, .int 0, .int 0, .int (-1), .int 0, .int 0])) :: (ri, .inl (cI, 132, .inl (fun _ => 0))) :: (rl, .inl (cI, 160, .inl (fun _ => 0))) :: (mv, .inr (1, [.ref mb, .int 0, .int 0, .int 0, .int 0])) :: (mb, .inl (cI, 20, .inl (fun _ => 0))) :: (xr, .inl (cI, 8, .inl (fun _ => 0))) :: ((sh 0), .inr (4, [.ref (el 0), .int (-1), .int 0])) :: ((el 0), .inl (cJ, 160, .inr (.inl (fun _ => 0)))) :: ((sh 1), .inr (4, [.ref (el 1), .int (-1), .int 0])) :: ((el 1), .inl (cJ, 160, .inr (.inl (fun _ => 0)))) :: ((sh 2), .inr (4, [.ref (el 2), .int (-1), .int 0])) :: ((el 2), .inl (cJ, 160, .inr (.inl (fun _ => 0)))) :: ((sh 3), .inr (4, [.ref (el 3), .int (-1), .int 0])) :: ((el 3), .inl (cJ, 160, .inr (.inl (fun _ => 0)))) :: ((sh 4), .inr (4, [.ref (el 4), .int (-1), .int 0])) :: ((el 4), .inl (cJ, 160, .inr (.inl (fun _ => 0)))) :: ((sh 5), .inr (4, [.ref (el 5), .int (-1), .int 0])) :: ((el 5), .inl (cJ, 160, .inr (.inl (fun _ => 0)))) :: ((sh 6), .inr (4, [.ref (el 6), .int (-1), .int 0])) :: ((el 6), .inl (cJ, 160, .inr (.inl (fun _ => 0)))) :: ((sh 7), .inr (4, [.ref (el 7), .int (-1), .int 0])) :: ((el 7), .inl (cJ, 160, .inr (.inl (fun _ => 0)))) :: (m0, .inr (8, (.int 0 :: .int 20 :: .int 0 :: .int 0 :: .int 0 :: .int 60 :: .int 0 :: .int 3 :: .int 1 :: .int (-1) :: .ref mrf :: .ref mki :: .ref mpa :: .ref mta :: .ref mla :: .ref msl :: .ref mco :: .ref mhe :: .ref mso :: .ref msi :: .ref msh :: .ref mce :: .ref mca :: .ref mwo :: .ref mnu :: .ref mte :: .int 0 :: .int 0 :: .int 0 :: .int 0 :: .int 0 :: .ref mwa :: .ref mke :: .ref mma :: .ref mth :: .ref mtr :: .int 0 :: .int 0 :: []))) :: (mrf, .inl (cI, 8, .inl (fun _ => 0))) :: (mki, .inl (cI, 8, .inl (fun _ => 0))) :: (mpa, .inl (cI, 8, .inl (fun _ => 0))) :: (mta, .inl (cI, 8, .inl (fun _ => 0))) :: (mla, .inl (cI, 40, .inl (fun _ => 0))) :: (msl, .inl (cI, 40, .inl (fun _ => 0))) :: (mco, .inl (cI, 3, .inl (zL3 5 10 50))) :: (mhe, .inl (cI, 8, .inl (fun _ => 0))) :: (mso, .inl (cI, 8, .inl (fun _ => 0))) :: (msi, .inl (cI, 8, .inl (fun _ => 0))) :: (msh, .inl (cI, 8, .inl (fun _ => 0))) :: (mce, .inl (cJ, 1280, .inr (.inl (fun _ => 0)))) :: (mca, .inl (cJ, 160, .inr (.inl (fun _ => 0)))) :: (mwo, .inl (cI, 64, .inl fw_)) :: (mnu, .inl (cI, 10, .inl fn_)) :: (mte, .inl (cI, 3, .inl (fun _ => 0))) :: (mwa, .inl (cI, 130, .inl (fun _ => 0))) :: (mke, .inl (cI, 130, .inl (fun _ => 0))) :: (mma, .inl (cI, 3, .inl (fun _ => 0))) :: (mth, .inl (cI, 3, .inl (fun _ => 0))) :: (mtr, .inl (cI, 20, .inl (fun _ => 0))) :: []) H := hP
  replace hD : va_D _ ((x0, .inr (7, [.ref xs, .ref j0, .ref k0, .ref w0, .ref rd, .ref mv, .ref xr, .int 0, .int (-1)])) :: (xs, .inl (cS, 8, .inr (.inr (.inr (.inr (zS sh)))))) :: (j0, .inr (0, [.ref z0, .ref jp, .ref jc, .int 0, .int 0, .int 0, .int 60, .int 0, .int 1])) :: (z0, .inr (6, [.ref zl, .ref zs, .int 20, .int 0, .int 3])) :: (zl, .inl (cZ, 40, .inl (fun _ => 0))) :: (zs, .inl (cI, 40, .inl (fun _ => 0))) :: (jp, .inl (cP, 8, .inr (.inr (.inr (.inr (fun _ => none)))))) :: (jc, .inl (cI, 3, .inl (zL3 5 10 50))) :: (k0, .inr (0, [.ref kz, .ref kp, .ref kc, .int 0, .int 0, .int 0, .int 60, .int 0, .int 1])) :: (kz, .inr (6, [.ref kzl, .ref kzs, .int 20, .int 0, .int 3])) :: (kzl, .inl (cZ, 40, .inl (fun _ => 0))) :: (kzs, .inl (cI, 40, .inl (fun _ => 0))) :: (kp, .inl (cP, 8, .inr (.inr (.inr (.inr (fun _ => none)))))) :: (kc, .inl (cI, 3, .inl (zL3 5 10 50))) :: (w0, .inr (5, [.ref wk, .ref wl, .ref wc, .ref wp, .int 0, .int 0, .int 0])) :: (wk, .inl (cI, 125, .inl (fun _ => 0))) :: (wl, .inl (cI, 125, .inl (fun _ => 0))) :: (wc, .inl (cI, 3, .inl (fun _ => 0))) :: (wp, .inl (cP, 8, .inr (.inr (.inr (.inr (fun _ => none)))))) :: (rd, .inr (3, [.ref ri, .ref rl, .int 0, .int 0, .int 0, .int (-1), .int 0, .int 0])) :: (ri, .inl (cI, 132, .inl (fun _ => 0))) :: (rl, .inl (cI, 160, .inl (fun _ => 0))) :: (mv, .inr (1, [.ref mb, .int 0, .int 0, .int 0, .int 0])) :: (mb, .inl (cI, 20, .inl (fun _ => 0))) :: (xr, .inl (cI, 8, .inl (fun _ => 0))) :: ((sh 0), .inr (4, [.ref (el 0), .int (-1), .int 0])) :: ((el 0), .inl (cJ, 160, .inr (.inl (fun _ => 0)))) :: ((sh 1), .inr (4, [.ref (el 1), .int (-1), .int 0])) :: ((el 1), .inl (cJ, 160, .inr (.inl (fun _ => 0)))) :: ((sh 2), .inr (4, [.ref (el 2), .int (-1), .int 0])) :: ((el 2), .inl (cJ, 160, .inr (.inl (fun _ => 0)))) :: ((sh 3), .inr (4, [.ref (el 3), .int (-1), .int 0])) :: ((el 3), .inl (cJ, 160, .inr (.inl (fun _ => 0)))) :: ((sh 4), .inr (4, [.ref (el 4), .int (-1), .int 0])) :: ((el 4), .inl (cJ, 160, .inr (.inl (fun _ => 0)))) :: ((sh 5), .inr (4, [.ref (el 5), .int (-1), .int 0])) :: ((el 5), .inl (cJ, 160, .inr (.inl (fun _ => 0)))) :: ((sh 6), .inr (4, [.ref (el 6), .int (-1), .int 0])) :: ((el 6), .inl (cJ, 160, .inr (.inl (fun _ => 0)))) :: ((sh 7), .inr (4, [.ref (el 7), .int (-1), .int 0])) :: ((el 7), .inl (cJ, 160, .inr (.inl (fun _ => 0)))) :: (m0, .inr (8, (.int 0 :: .int 20 :: .int 0 :: .int 0 :: .int 0 :: .int 60 :: .int 0 :: .int 3 :: .int 1 :: .int (-1) :: .ref mrf :: .ref mki :: .ref mpa :: .ref mta :: .ref mla :: .ref msl :: .ref mco :: .ref mhe :: .ref mso :: .ref msi :: .ref msh :: .ref mce :: .ref mca :: .ref mwo :: .ref mnu :: .ref mte :: .int 0 :: .int 0 :: .int 0 :: .int 0 :: .int 0 :: .ref mwa :: .ref mke :: .ref mma :: .ref mth :: .ref mtr :: .int 0 :: .int 0 :: []))) :: (mrf, .inl (cI, 8, .inl (fun _ => 0))) :: (mki, .inl (cI, 8, .inl (fun _ => 0))) :: (mpa, .inl (cI, 8, .inl (fun _ => 0))) :: (mta, .inl (cI, 8, .inl (fun _ => 0))) :: (mla, .inl (cI, 40, .inl (fun _ => 0))) :: (msl, .inl (cI, 40, .inl (fun _ => 0))) :: (mco, .inl (cI, 3, .inl (zL3 5 10 50))) :: (mhe, .inl (cI, 8, .inl (fun _ => 0))) :: (mso, .inl (cI, 8, .inl (fun _ => 0))) :: (msi, .inl (cI, 8, .inl (fun _ => 0))) :: (msh, .inl (cI, 8, .inl (fun _ => 0))) :: (mce, .inl (cJ, 1280, .inr (.inl (fun _ => 0)))) :: (mca, .inl (cJ, 160, .inr (.inl (fun _ => 0)))) :: (mwo, .inl (cI, 64, .inl fw_)) :: (mnu, .inl (cI, 10, .inl fn_)) :: (mte, .inl (cI, 3, .inl (fun _ => 0))) :: (mwa, .inl (cI, 130, .inl (fun _ => 0))) :: (mke, .inl (cI, 130, .inl (fun _ => 0))) :: (mma, .inl (cI, 3, .inl (fun _ => 0))) :: (mth, .inl (cI, 3, .inl (fun _ => 0))) :: (mtr, .inl (cI, 20, .inl (fun _ => 0))) :: []) := hD
  refine lv_aload_n hx hb dL_law_1095 rfl (lv_at hl 2 rfl) ?_
  refine lv_aload_n hx hb dL_law_1096 rfl (lv_at hl 3 rfl) ?_
  refine lv_iload_n hx hb dL_law_1097 rfl (lv_at hl 0 rfl) ?_
  refine lv_iconst (v := 1) hx hb dL_law_1098 (by decide) ?_
  refine lv_iadd hx hb dL_law_1099 ?_
  refine lv_topi (fun y_1 ey_1 => ?_)
  obtain rfl : y_1 = 1 := ey_1.trans (by decide)
  refine va_sld hx hb hX hbl hbA hS (zf_in (by decide) (by decide)) dL_law_1100 ?_
  refine lv_topi (fun a_3 ea_3 => ?_)
  refine lv_aload_n hx hb dL_law_1101 rfl (lv_at hl 3 rfl) ?_
  refine lv_iload_n hx hb dL_law_1102 rfl (lv_at hl 0 rfl) ?_
  refine lv_iconst (v := 2) hx hb dL_law_1103 (by decide) ?_
  refine lv_iadd hx hb dL_law_1104 ?_
  refine lv_topi (fun y_4 ey_4 => ?_)
  obtain rfl : y_4 = 2 := ey_4.trans (by decide)
  refine va_sld hx hb hX hbl hbA hS (zf_in (by decide) (by decide)) dL_law_1105 ?_
  refine lv_topi (fun a_6 ea_6 => ?_)
  refine lv_aload_n hx hb dL_law_1106 rfl (lv_at hl 3 rfl) ?_
  refine lv_iload_n hx hb dL_law_1107 rfl (lv_at hl 0 rfl) ?_
  refine lv_iconst (v := 3) hx hb dL_law_1108 (by decide) ?_
  refine lv_iadd hx hb dL_law_1109 ?_
  refine lv_topi (fun y_7 ey_7 => ?_)
  obtain rfl : y_7 = 3 := ey_7.trans (by decide)
  refine va_sld hx hb hX hbl hbA hS (zf_in (by decide) (by decide)) dL_law_1110 ?_
  refine lv_topi (fun a_9 ea_9 => ?_)
  skip
  refine zw_V (As := [.int a_3, .int a_6, .int a_9]) (rest := []) (wr := ((m0, .inr (8, (.int 0 :: .int 20 :: .int 0 :: .int 0 :: .int 0 :: .int 60 :: .int 0 :: .int 3 :: .int 1 :: .int (-1) :: .ref mrf :: .ref mki :: .ref mpa :: .ref mta :: .ref mla :: .ref msl :: .ref mco :: .ref mhe :: .ref mso :: .ref msi :: .ref msh :: .ref mce :: .ref mca :: .ref mwo :: .ref mnu :: .ref mte :: .int 0 :: .int 0 :: .int 0 :: .int 0 :: .int 0 :: .ref mwa :: .ref mke :: .ref mma :: .ref mth :: .ref mtr :: .int 0 :: .int 0 :: []))) :: (mrf, .inl (cI, 8, .inl (fun _ => 0))) :: (mki, .inl (cI, 8, .inl (fun _ => 0))) :: (mpa, .inl (cI, 8, .inl (fun _ => 0))) :: (mta, .inl (cI, 8, .inl (fun _ => 0))) :: (mla, .inl (cI, 40, .inl (fun _ => 0))) :: (msl, .inl (cI, 40, .inl (fun _ => 0))) :: (mco, .inl (cI, 3, .inl (zL3 5 10 50))) :: (mhe, .inl (cI, 8, .inl (fun _ => 0))) :: (mso, .inl (cI, 8, .inl (fun _ => 0))) :: (msi, .inl (cI, 8, .inl (fun _ => 0))) :: (msh, .inl (cI, 8, .inl (fun _ => 0))) :: (mce, .inl (cJ, 1280, .inr (.inl (fun _ => 0)))) :: (mca, .inl (cJ, 160, .inr (.inl (fun _ => 0)))) :: (mwo, .inl (cI, 64, .inl fw_)) :: (mnu, .inl (cI, 10, .inl fn_)) :: (mte, .inl (cI, 3, .inl (fun _ => 0))) :: (mwa, .inl (cI, 130, .inl (fun _ => 0))) :: (mke, .inl (cI, 130, .inl (fun _ => 0))) :: (mma, .inl (cI, 3, .inl (fun _ => 0))) :: (mth, .inl (cI, 3, .inl (fun _ => 0))) :: (mtr, .inl (cI, 20, .inl (fun _ => 0))) :: [])) ⟨hx, hb, hml, hown, hts⟩ (c_meant l D cI cJ cZ cP cS x0 xs j0 k0 w0 rd mv xr sh el jp jc z0 0 0 (a_3) (a_6) (a_9)  H.size) (cwV 3 hts gq_127 rfl rfl rfl (by decide +kernel) ⟨Nat.le_of_ble_eq_true rfl, Nat.le_of_ble_eq_true rfl⟩) hK hN (hZ.kept hS) hP hD hS hA [0, 24, 1, 25, 27, 29, 31, 33, 35, 37, 39, 2] [41, 42, 43, 44, 45, 46, 47, 48, 49, 50, 51, 52, 53, 54, 55, 56, 57, 58, 59, 60, 61, 62] rfl rfl (by decide) (by decide) (by decide) (va_recv hK hP (ci := 7) (q0 := 0) rfl rfl) rfl hl.1 rfl (Nat.le_of_ble_eq_true rfl) dL_law_1111 ⟨Nat.le_of_ble_eq_true rfl, Nat.le_of_ble_eq_true rfl⟩ (fun r_10 u_11 H locs hr_10 hP hD hS => ?_)
  replace hP : va_P D vwCl ((m0, .inr (8, (.int 0 :: .int 20 :: .int 0 :: .int 0 :: .int 0 :: .int 60 :: .int 0 :: .int 3 :: .int 1 :: .int (-1) :: .ref mrf :: .ref mki :: .ref mpa :: .ref mta :: .ref mla :: .ref msl :: .ref mco :: .ref mhe :: .ref mso :: .ref msi :: .ref msh :: .ref mce :: .ref mca :: .ref mwo :: .ref mnu :: .ref mte :: .int 0 :: .int 0 :: .int 0 :: .int 0 :: .int 0 :: .ref mwa :: .ref mke :: .ref mma :: .ref mth :: .ref mtr :: .int 0 :: .int 0 :: []))) :: (mrf, .inl (cI, 8, .inl (fun _ => 0))) :: (mki, .inl (cI, 8, .inl (fun _ => 0))) :: (mpa, .inl (cI, 8, .inl (fun _ => 0))) :: (mta, .inl (cI, 8, .inl (fun _ => 0))) :: (mla, .inl (cI, 40, .inl (fun _ => 0))) :: (msl, .inl (cI, 40, .inl (fun _ => 0))) :: (mco, .inl (cI, 3, .inl (zL3 5 10 50))) :: (mhe, .inl (cI, 8, .inl (fun _ => 0))) :: (mso, .inl (cI, 8, .inl (fun _ => 0))) :: (msi, .inl (cI, 8, .inl (fun _ => 0))) :: (msh, .inl (cI, 8, .inl (fun _ => 0))) :: (mce, .inl (cJ, 1280, .inr (.inl (fun _ => 0)))) :: (mca, .inl (cJ, 160, .inr (.inl (fun _ => 0)))) :: (mwo, .inl (cI, 64, .inl fw_)) :: (mnu, .inl (cI, 10, .inl fn_)) :: (mte, .inl (cI, 3, .inl (fun _ => 0))) :: (mwa, .inl (cI, 130, .inl (fun _ => 0))) :: (mke, .inl (cI, 130, .inl (fun _ => 0))) :: (mma, .inl (cI, 3, .inl (fun _ => 0))) :: (mth, .inl (cI, 3, .inl (fun _ => 0))) :: (mtr, .inl (cI, 20, .inl (fun _ => 0))) :: []) H := hP
  replace hD : va_D _ ((m0, .inr (8, (.int 0 :: .int 20 :: .int 0 :: .int 0 :: .int 0 :: .int 60 :: .int 0 :: .int 3 :: .int 1 :: .int (-1) :: .ref mrf :: .ref mki :: .ref mpa :: .ref mta :: .ref mla :: .ref msl :: .ref mco :: .ref mhe :: .ref mso :: .ref msi :: .ref msh :: .ref mce :: .ref mca :: .ref mwo :: .ref mnu :: .ref mte :: .int 0 :: .int 0 :: .int 0 :: .int 0 :: .int 0 :: .ref mwa :: .ref mke :: .ref mma :: .ref mth :: .ref mtr :: .int 0 :: .int 0 :: []))) :: (mrf, .inl (cI, 8, .inl (fun _ => 0))) :: (mki, .inl (cI, 8, .inl (fun _ => 0))) :: (mpa, .inl (cI, 8, .inl (fun _ => 0))) :: (mta, .inl (cI, 8, .inl (fun _ => 0))) :: (mla, .inl (cI, 40, .inl (fun _ => 0))) :: (msl, .inl (cI, 40, .inl (fun _ => 0))) :: (mco, .inl (cI, 3, .inl (zL3 5 10 50))) :: (mhe, .inl (cI, 8, .inl (fun _ => 0))) :: (mso, .inl (cI, 8, .inl (fun _ => 0))) :: (msi, .inl (cI, 8, .inl (fun _ => 0))) :: (msh, .inl (cI, 8, .inl (fun _ => 0))) :: (mce, .inl (cJ, 1280, .inr (.inl (fun _ => 0)))) :: (mca, .inl (cJ, 160, .inr (.inl (fun _ => 0)))) :: (mwo, .inl (cI, 64, .inl fw_)) :: (mnu, .inl (cI, 10, .inl fn_)) :: (mte, .inl (cI, 3, .inl (fun _ => 0))) :: (mwa, .inl (cI, 130, .inl (fun _ => 0))) :: (mke, .inl (cI, 130, .inl (fun _ => 0))) :: (mma, .inl (cI, 3, .inl (fun _ => 0))) :: (mth, .inl (cI, 3, .inl (fun _ => 0))) :: (mtr, .inl (cI, 20, .inl (fun _ => 0))) :: []) := hD
  rcases hr_10 with ⟨rfl, g_12⟩ | ⟨rfl, g_13, g_14⟩ | ⟨rfl, g_15, g_16⟩
  · refine lv_aload_n hx hb dL_law_1114 rfl (lv_at hl 1 rfl) ?_
    refine lv_aload_n hx hb dL_law_1115 rfl (lv_at hl 3 rfl) ?_
    refine lv_iload_n hx hb dL_law_1116 rfl (lv_at hl 0 rfl) ?_
    refine lv_iconst (v := 1) hx hb dL_law_1117 (by decide) ?_
    refine lv_iadd hx hb dL_law_1118 ?_
    refine lv_topi (fun y_17 ey_17 => ?_)
    obtain rfl : y_17 = 1 := ey_17.trans (by decide)
    refine va_sld hx hb hX hbl hbA hS (zf_in (by decide) (by decide)) dL_law_1119 ?_
    refine lv_topi (fun y_18 ey_18 => ?_)
    obtain rfl : a_3 = y_18 := ea_3.trans ey_18.symm
    refine lv_aload_n hx hb dL_law_1120 rfl (lv_at hl 3 rfl) ?_
    refine lv_iload_n hx hb dL_law_1121 rfl (lv_at hl 0 rfl) ?_
    refine lv_iconst (v := 2) hx hb dL_law_1122 (by decide) ?_
    refine lv_iadd hx hb dL_law_1123 ?_
    refine lv_topi (fun y_19 ey_19 => ?_)
    obtain rfl : y_19 = 2 := ey_19.trans (by decide)
    refine va_sld hx hb hX hbl hbA hS (zf_in (by decide) (by decide)) dL_law_1124 ?_
    refine lv_topi (fun y_20 ey_20 => ?_)
    obtain rfl : a_6 = y_20 := ea_6.trans ey_20.symm
    refine lv_aload_n hx hb dL_law_1125 rfl (lv_at hl 3 rfl) ?_
    refine lv_iload_n hx hb dL_law_1126 rfl (lv_at hl 0 rfl) ?_
    refine lv_iconst (v := 3) hx hb dL_law_1127 (by decide) ?_
    refine lv_iadd hx hb dL_law_1128 ?_
    refine lv_topi (fun y_21 ey_21 => ?_)
    obtain rfl : y_21 = 3 := ey_21.trans (by decide)
    refine va_sld hx hb hX hbl hbA hS (zf_in (by decide) (by decide)) dL_law_1129 ?_
    refine lv_topi (fun y_22 ey_22 => ?_)
    obtain rfl : a_9 = y_22 := ea_9.trans ey_22.symm
    skip
    refine zw_V (As := [.int a_3, .int a_6, .int a_9]) (rest := [.int (-1)]) (wr := [(mki, .inl (cI, 8, .inl (fun _ => 0))), (mpa, .inl (cI, 8, .inl (fun _ => 0))), (mta, .inl (cI, 8, .inl (fun _ => 0))), (mla, .inl (cI, 40, .inl (fun _ => 0))), (msl, .inl (cI, 40, .inl (fun _ => 0))), (mco, .inl (cI, 3, .inl (zL3 5 10 50))), (mso, .inl (cI, 8, .inl (fun _ => 0))), (msi, .inl (cI, 8, .inl (fun _ => 0))), (msh, .inl (cI, 8, .inl (fun _ => 0))), (mce, .inl (cJ, 1280, .inr (.inl (fun _ => 0)))), (mca, .inl (cJ, 160, .inr (.inl (fun _ => 0)))), (mwo, .inl (cI, 64, .inl fw_)), (mnu, .inl (cI, 10, .inl fn_)), (mte, .inl (cI, 3, .inl (fun _ => 0))), (mwa, .inl (cI, 130, .inl (fun _ => 0))), (mke, .inl (cI, 130, .inl (fun _ => 0))), (mma, .inl (cI, 3, .inl (fun _ => 0))), (mth, .inl (cI, 3, .inl (fun _ => 0))), (mtr, .inl (cI, 20, .inl (fun _ => 0)))]) ⟨hx, hb, hml, hown, hts⟩ (c_M_meant l D cI cJ cZ cP cS m0 mrf mki mpa mta mla msl mco mhe mso msi msh mce mca mwo mnu mte mwa mke mma mth mtr (a_3) (a_6) (a_9)  H.size) (cwV 3 hts gq_130 rfl rfl rfl (by decide +kernel) ⟨Nat.le_of_ble_eq_true rfl, Nat.le_of_ble_eq_true rfl⟩) hK hN (hZ.kept hS) hP hD hS hA [0, 1, 8] [2, 3, 4, 5, 6, 7, 9, 10, 11, 12, 13, 14, 15, 16, 17, 18, 19, 20, 21] rfl rfl (by decide) (by decide) (by decide) (va_recv hK hP (ci := 8) (q0 := 0) rfl rfl) rfl hl.1 rfl (Nat.le_of_ble_eq_true rfl) dL_law_1130 ⟨Nat.le_of_ble_eq_true rfl, Nat.le_of_ble_eq_true rfl⟩ (fun r_23 u_24 H locs hr_23 hP hD hS => ?_)
    replace hP : va_P D vwCl [(mki, .inl (cI, 8, .inl (fun _ => 0))), (mpa, .inl (cI, 8, .inl (fun _ => 0))), (mta, .inl (cI, 8, .inl (fun _ => 0))), (mla, .inl (cI, 40, .inl (fun _ => 0))), (msl, .inl (cI, 40, .inl (fun _ => 0))), (mco, .inl (cI, 3, .inl (zL3 5 10 50))), (mso, .inl (cI, 8, .inl (fun _ => 0))), (msi, .inl (cI, 8, .inl (fun _ => 0))), (msh, .inl (cI, 8, .inl (fun _ => 0))), (mce, .inl (cJ, 1280, .inr (.inl (fun _ => 0)))), (mca, .inl (cJ, 160, .inr (.inl (fun _ => 0)))), (mwo, .inl (cI, 64, .inl fw_)), (mnu, .inl (cI, 10, .inl fn_)), (mte, .inl (cI, 3, .inl (fun _ => 0))), (mwa, .inl (cI, 130, .inl (fun _ => 0))), (mke, .inl (cI, 130, .inl (fun _ => 0))), (mma, .inl (cI, 3, .inl (fun _ => 0))), (mth, .inl (cI, 3, .inl (fun _ => 0))), (mtr, .inl (cI, 20, .inl (fun _ => 0)))] H := hP
    replace hD : va_D _ [(mki, .inl (cI, 8, .inl (fun _ => 0))), (mpa, .inl (cI, 8, .inl (fun _ => 0))), (mta, .inl (cI, 8, .inl (fun _ => 0))), (mla, .inl (cI, 40, .inl (fun _ => 0))), (msl, .inl (cI, 40, .inl (fun _ => 0))), (mco, .inl (cI, 3, .inl (zL3 5 10 50))), (mso, .inl (cI, 8, .inl (fun _ => 0))), (msi, .inl (cI, 8, .inl (fun _ => 0))), (msh, .inl (cI, 8, .inl (fun _ => 0))), (mce, .inl (cJ, 1280, .inr (.inl (fun _ => 0)))), (mca, .inl (cJ, 160, .inr (.inl (fun _ => 0)))), (mwo, .inl (cI, 64, .inl fw_)), (mnu, .inl (cI, 10, .inl fn_)), (mte, .inl (cI, 3, .inl (fun _ => 0))), (mwa, .inl (cI, 130, .inl (fun _ => 0))), (mke, .inl (cI, 130, .inl (fun _ => 0))), (mma, .inl (cI, 3, .inl (fun _ => 0))), (mth, .inl (cI, 3, .inl (fun _ => 0))), (mtr, .inl (cI, 20, .inl (fun _ => 0)))] := hD
    rcases hr_23 with ⟨rfl, g_25, g_26⟩ | ⟨rfl, g_27, g_28⟩ | ⟨rfl, g_29, g_30, g_31⟩ | ⟨rfl, g_32, g_33, g_34⟩ | ⟨rfl, g_35, g_36, g_37⟩ | ⟨rfl, g_38, g_39, g_40⟩
    · refine lv_icmp_eq (tgt := 1371) hx hb dL_law_1133 (by decide) (fun c_41 => ?_) (fun c_41 => ?_)
      · refine lv_iinc (v := 6) (lv' := [(3, .int 6), (2, .ref m0), (1, .ref x0), (0, .ref b)]) hx hb dL_law_1371 hl (k := 0) rfl (by decide) (by decide) rfl (fun ls hl => ?_)
        refine lv_goto (tgt := 18) hx hb dL_law_1374 (by decide) ?_
        refine lv_iload_n hx hb dL_law_18 rfl (lv_at hl 0 rfl) ?_
        refine lv_aload_n hx hb dL_law_19 rfl (lv_at hl 3 rfl) ?_
        refine va_slen hx hb hX hbl hbA hS dL_law_20 ?_
        refine lv_topi (fun y_42 ey_42 => ?_)
        obtain rfl : y_42 = 6 := ey_42.trans (by decide)
        refine lv_bipush (v := 6) hx hb dL_law_21 (by decide) ?_
        refine lv_isub hx hb dL_law_23 ?_
        refine lv_topi (fun y_43 ey_43 => ?_)
        obtain rfl : y_43 = 0 := ey_43.trans (by decide)
        refine lv_icmp_gt (tgt := 1377) hx hb dL_law_24 (by decide) (fun c_44 => ?_) (fun c_44 => ?_)
        · refine lv_iconst (v := 1) hx hb dL_law_1377 (by decide) ?_
          refine va_forget (fun q hq => hS.2.2 q hq) ?_
          refine W.widen (k := 600000) (n := 7302250) (Nat.le_of_ble_eq_true rfl) (Nat.le_of_ble_eq_true rfl) ?_
          exact lw_ret hx hb hr hlocks dL_law_1378
        · exact absurd c_44 (by decide)
      · exact absurd c_41 (by decide)
    · refine lv_icmp_eq (tgt := 1371) hx hb dL_law_1133 (by decide) (fun c_45 => ?_) (fun c_45 => ?_)
      · refine lv_iinc (v := 6) (lv' := [(3, .int 6), (2, .ref m0), (1, .ref x0), (0, .ref b)]) hx hb dL_law_1371 hl (k := 0) rfl (by decide) (by decide) rfl (fun ls hl => ?_)
        refine lv_goto (tgt := 18) hx hb dL_law_1374 (by decide) ?_
        refine lv_iload_n hx hb dL_law_18 rfl (lv_at hl 0 rfl) ?_
        refine lv_aload_n hx hb dL_law_19 rfl (lv_at hl 3 rfl) ?_
        refine va_slen hx hb hX hbl hbA hS dL_law_20 ?_
        refine lv_topi (fun y_46 ey_46 => ?_)
        obtain rfl : y_46 = 6 := ey_46.trans (by decide)
        refine lv_bipush (v := 6) hx hb dL_law_21 (by decide) ?_
        refine lv_isub hx hb dL_law_23 ?_
        refine lv_topi (fun y_47 ey_47 => ?_)
        obtain rfl : y_47 = 0 := ey_47.trans (by decide)
        refine lv_icmp_gt (tgt := 1377) hx hb dL_law_24 (by decide) (fun c_48 => ?_) (fun c_48 => ?_)
        · refine lv_iconst (v := 1) hx hb dL_law_1377 (by decide) ?_
          refine va_forget (fun q hq => hS.2.2 q hq) ?_
          refine W.widen (k := 600000) (n := 7302250) (Nat.le_of_ble_eq_true rfl) (Nat.le_of_ble_eq_true rfl) ?_
          exact lw_ret hx hb hr hlocks dL_law_1378
        · exact absurd c_48 (by decide)
      · exact absurd c_45 (by decide)
    · exfalso; omega
    · exfalso; omega
    · exfalso; omega
    · exfalso; omega
  · refine lv_aload_n hx hb dL_law_1114 rfl (lv_at hl 1 rfl) ?_
    refine lv_aload_n hx hb dL_law_1115 rfl (lv_at hl 3 rfl) ?_
    refine lv_iload_n hx hb dL_law_1116 rfl (lv_at hl 0 rfl) ?_
    refine lv_iconst (v := 1) hx hb dL_law_1117 (by decide) ?_
    refine lv_iadd hx hb dL_law_1118 ?_
    refine lv_topi (fun y_49 ey_49 => ?_)
    obtain rfl : y_49 = 1 := ey_49.trans (by decide)
    refine va_sld hx hb hX hbl hbA hS (zf_in (by decide) (by decide)) dL_law_1119 ?_
    refine lv_topi (fun y_50 ey_50 => ?_)
    obtain rfl : a_3 = y_50 := ea_3.trans ey_50.symm
    refine lv_aload_n hx hb dL_law_1120 rfl (lv_at hl 3 rfl) ?_
    refine lv_iload_n hx hb dL_law_1121 rfl (lv_at hl 0 rfl) ?_
    refine lv_iconst (v := 2) hx hb dL_law_1122 (by decide) ?_
    refine lv_iadd hx hb dL_law_1123 ?_
    refine lv_topi (fun y_51 ey_51 => ?_)
    obtain rfl : y_51 = 2 := ey_51.trans (by decide)
    refine va_sld hx hb hX hbl hbA hS (zf_in (by decide) (by decide)) dL_law_1124 ?_
    refine lv_topi (fun y_52 ey_52 => ?_)
    obtain rfl : a_6 = y_52 := ea_6.trans ey_52.symm
    refine lv_aload_n hx hb dL_law_1125 rfl (lv_at hl 3 rfl) ?_
    refine lv_iload_n hx hb dL_law_1126 rfl (lv_at hl 0 rfl) ?_
    refine lv_iconst (v := 3) hx hb dL_law_1127 (by decide) ?_
    refine lv_iadd hx hb dL_law_1128 ?_
    refine lv_topi (fun y_53 ey_53 => ?_)
    obtain rfl : y_53 = 3 := ey_53.trans (by decide)
    refine va_sld hx hb hX hbl hbA hS (zf_in (by decide) (by decide)) dL_law_1129 ?_
    refine lv_topi (fun y_54 ey_54 => ?_)
    obtain rfl : a_9 = y_54 := ea_9.trans ey_54.symm
    skip
    refine zw_V (As := [.int a_3, .int a_6, .int a_9]) (rest := [.int (-1)]) (wr := [(mki, .inl (cI, 8, .inl (fun _ => 0))), (mpa, .inl (cI, 8, .inl (fun _ => 0))), (mta, .inl (cI, 8, .inl (fun _ => 0))), (mla, .inl (cI, 40, .inl (fun _ => 0))), (msl, .inl (cI, 40, .inl (fun _ => 0))), (mco, .inl (cI, 3, .inl (zL3 5 10 50))), (mso, .inl (cI, 8, .inl (fun _ => 0))), (msi, .inl (cI, 8, .inl (fun _ => 0))), (msh, .inl (cI, 8, .inl (fun _ => 0))), (mce, .inl (cJ, 1280, .inr (.inl (fun _ => 0)))), (mca, .inl (cJ, 160, .inr (.inl (fun _ => 0)))), (mwo, .inl (cI, 64, .inl fw_)), (mnu, .inl (cI, 10, .inl fn_)), (mte, .inl (cI, 3, .inl (fun _ => 0))), (mwa, .inl (cI, 130, .inl (fun _ => 0))), (mke, .inl (cI, 130, .inl (fun _ => 0))), (mma, .inl (cI, 3, .inl (fun _ => 0))), (mth, .inl (cI, 3, .inl (fun _ => 0))), (mtr, .inl (cI, 20, .inl (fun _ => 0)))]) ⟨hx, hb, hml, hown, hts⟩ (c_M_meant l D cI cJ cZ cP cS m0 mrf mki mpa mta mla msl mco mhe mso msi msh mce mca mwo mnu mte mwa mke mma mth mtr (a_3) (a_6) (a_9)  H.size) (cwV 3 hts gq_130 rfl rfl rfl (by decide +kernel) ⟨Nat.le_of_ble_eq_true rfl, Nat.le_of_ble_eq_true rfl⟩) hK hN (hZ.kept hS) hP hD hS hA [0, 1, 8] [2, 3, 4, 5, 6, 7, 9, 10, 11, 12, 13, 14, 15, 16, 17, 18, 19, 20, 21] rfl rfl (by decide) (by decide) (by decide) (va_recv hK hP (ci := 8) (q0 := 0) rfl rfl) rfl hl.1 rfl (Nat.le_of_ble_eq_true rfl) dL_law_1130 ⟨Nat.le_of_ble_eq_true rfl, Nat.le_of_ble_eq_true rfl⟩ (fun r_55 u_56 H locs hr_55 hP hD hS => ?_)
    replace hP : va_P D vwCl [(mki, .inl (cI, 8, .inl (fun _ => 0))), (mpa, .inl (cI, 8, .inl (fun _ => 0))), (mta, .inl (cI, 8, .inl (fun _ => 0))), (mla, .inl (cI, 40, .inl (fun _ => 0))), (msl, .inl (cI, 40, .inl (fun _ => 0))), (mco, .inl (cI, 3, .inl (zL3 5 10 50))), (mso, .inl (cI, 8, .inl (fun _ => 0))), (msi, .inl (cI, 8, .inl (fun _ => 0))), (msh, .inl (cI, 8, .inl (fun _ => 0))), (mce, .inl (cJ, 1280, .inr (.inl (fun _ => 0)))), (mca, .inl (cJ, 160, .inr (.inl (fun _ => 0)))), (mwo, .inl (cI, 64, .inl fw_)), (mnu, .inl (cI, 10, .inl fn_)), (mte, .inl (cI, 3, .inl (fun _ => 0))), (mwa, .inl (cI, 130, .inl (fun _ => 0))), (mke, .inl (cI, 130, .inl (fun _ => 0))), (mma, .inl (cI, 3, .inl (fun _ => 0))), (mth, .inl (cI, 3, .inl (fun _ => 0))), (mtr, .inl (cI, 20, .inl (fun _ => 0)))] H := hP
    replace hD : va_D _ [(mki, .inl (cI, 8, .inl (fun _ => 0))), (mpa, .inl (cI, 8, .inl (fun _ => 0))), (mta, .inl (cI, 8, .inl (fun _ => 0))), (mla, .inl (cI, 40, .inl (fun _ => 0))), (msl, .inl (cI, 40, .inl (fun _ => 0))), (mco, .inl (cI, 3, .inl (zL3 5 10 50))), (mso, .inl (cI, 8, .inl (fun _ => 0))), (msi, .inl (cI, 8, .inl (fun _ => 0))), (msh, .inl (cI, 8, .inl (fun _ => 0))), (mce, .inl (cJ, 1280, .inr (.inl (fun _ => 0)))), (mca, .inl (cJ, 160, .inr (.inl (fun _ => 0)))), (mwo, .inl (cI, 64, .inl fw_)), (mnu, .inl (cI, 10, .inl fn_)), (mte, .inl (cI, 3, .inl (fun _ => 0))), (mwa, .inl (cI, 130, .inl (fun _ => 0))), (mke, .inl (cI, 130, .inl (fun _ => 0))), (mma, .inl (cI, 3, .inl (fun _ => 0))), (mth, .inl (cI, 3, .inl (fun _ => 0))), (mtr, .inl (cI, 20, .inl (fun _ => 0)))] := hD
    rcases hr_55 with ⟨rfl, g_57, g_58⟩ | ⟨rfl, g_59, g_60⟩ | ⟨rfl, g_61, g_62, g_63⟩ | ⟨rfl, g_64, g_65, g_66⟩ | ⟨rfl, g_67, g_68, g_69⟩ | ⟨rfl, g_70, g_71, g_72⟩
    · exfalso; omega
    · exfalso; omega
    · refine lv_icmp_eq (tgt := 1371) hx hb dL_law_1133 (by decide) (fun c_73 => ?_) (fun c_73 => ?_)
      · refine lv_iinc (v := 6) (lv' := [(3, .int 6), (2, .ref m0), (1, .ref x0), (0, .ref b)]) hx hb dL_law_1371 hl (k := 0) rfl (by decide) (by decide) rfl (fun ls hl => ?_)
        refine lv_goto (tgt := 18) hx hb dL_law_1374 (by decide) ?_
        refine lv_iload_n hx hb dL_law_18 rfl (lv_at hl 0 rfl) ?_
        refine lv_aload_n hx hb dL_law_19 rfl (lv_at hl 3 rfl) ?_
        refine va_slen hx hb hX hbl hbA hS dL_law_20 ?_
        refine lv_topi (fun y_74 ey_74 => ?_)
        obtain rfl : y_74 = 6 := ey_74.trans (by decide)
        refine lv_bipush (v := 6) hx hb dL_law_21 (by decide) ?_
        refine lv_isub hx hb dL_law_23 ?_
        refine lv_topi (fun y_75 ey_75 => ?_)
        obtain rfl : y_75 = 0 := ey_75.trans (by decide)
        refine lv_icmp_gt (tgt := 1377) hx hb dL_law_24 (by decide) (fun c_76 => ?_) (fun c_76 => ?_)
        · refine lv_iconst (v := 1) hx hb dL_law_1377 (by decide) ?_
          refine va_forget (fun q hq => hS.2.2 q hq) ?_
          refine W.widen (k := 600000) (n := 7302250) (Nat.le_of_ble_eq_true rfl) (Nat.le_of_ble_eq_true rfl) ?_
          exact lw_ret hx hb hr hlocks dL_law_1378
        · exact absurd c_76 (by decide)
      · exact absurd c_73 (by decide)
    · refine lv_icmp_eq (tgt := 1371) hx hb dL_law_1133 (by decide) (fun c_77 => ?_) (fun c_77 => ?_)
      · refine lv_iinc (v := 6) (lv' := [(3, .int 6), (2, .ref m0), (1, .ref x0), (0, .ref b)]) hx hb dL_law_1371 hl (k := 0) rfl (by decide) (by decide) rfl (fun ls hl => ?_)
        refine lv_goto (tgt := 18) hx hb dL_law_1374 (by decide) ?_
        refine lv_iload_n hx hb dL_law_18 rfl (lv_at hl 0 rfl) ?_
        refine lv_aload_n hx hb dL_law_19 rfl (lv_at hl 3 rfl) ?_
        refine va_slen hx hb hX hbl hbA hS dL_law_20 ?_
        refine lv_topi (fun y_78 ey_78 => ?_)
        obtain rfl : y_78 = 6 := ey_78.trans (by decide)
        refine lv_bipush (v := 6) hx hb dL_law_21 (by decide) ?_
        refine lv_isub hx hb dL_law_23 ?_
        refine lv_topi (fun y_79 ey_79 => ?_)
        obtain rfl : y_79 = 0 := ey_79.trans (by decide)
        refine lv_icmp_gt (tgt := 1377) hx hb dL_law_24 (by decide) (fun c_80 => ?_) (fun c_80 => ?_)
        · refine lv_iconst (v := 1) hx hb dL_law_1377 (by decide) ?_
          refine va_forget (fun q hq => hS.2.2 q hq) ?_
          refine W.widen (k := 600000) (n := 7302250) (Nat.le_of_ble_eq_true rfl) (Nat.le_of_ble_eq_true rfl) ?_
          exact lw_ret hx hb hr hlocks dL_law_1378
        · exact absurd c_80 (by decide)
      · exact absurd c_77 (by decide)
    · exfalso; omega
    · exfalso; omega
  · refine lv_aload_n hx hb dL_law_1114 rfl (lv_at hl 1 rfl) ?_
    refine lv_aload_n hx hb dL_law_1115 rfl (lv_at hl 3 rfl) ?_
    refine lv_iload_n hx hb dL_law_1116 rfl (lv_at hl 0 rfl) ?_
    refine lv_iconst (v := 1) hx hb dL_law_1117 (by decide) ?_
    refine lv_iadd hx hb dL_law_1118 ?_
    refine lv_topi (fun y_81 ey_81 => ?_)
    obtain rfl : y_81 = 1 := ey_81.trans (by decide)
    refine va_sld hx hb hX hbl hbA hS (zf_in (by decide) (by decide)) dL_law_1119 ?_
    refine lv_topi (fun y_82 ey_82 => ?_)
    obtain rfl : a_3 = y_82 := ea_3.trans ey_82.symm
    refine lv_aload_n hx hb dL_law_1120 rfl (lv_at hl 3 rfl) ?_
    refine lv_iload_n hx hb dL_law_1121 rfl (lv_at hl 0 rfl) ?_
    refine lv_iconst (v := 2) hx hb dL_law_1122 (by decide) ?_
    refine lv_iadd hx hb dL_law_1123 ?_
    refine lv_topi (fun y_83 ey_83 => ?_)
    obtain rfl : y_83 = 2 := ey_83.trans (by decide)
    refine va_sld hx hb hX hbl hbA hS (zf_in (by decide) (by decide)) dL_law_1124 ?_
    refine lv_topi (fun y_84 ey_84 => ?_)
    obtain rfl : a_6 = y_84 := ea_6.trans ey_84.symm
    refine lv_aload_n hx hb dL_law_1125 rfl (lv_at hl 3 rfl) ?_
    refine lv_iload_n hx hb dL_law_1126 rfl (lv_at hl 0 rfl) ?_
    refine lv_iconst (v := 3) hx hb dL_law_1127 (by decide) ?_
    refine lv_iadd hx hb dL_law_1128 ?_
    refine lv_topi (fun y_85 ey_85 => ?_)
    obtain rfl : y_85 = 3 := ey_85.trans (by decide)
    refine va_sld hx hb hX hbl hbA hS (zf_in (by decide) (by decide)) dL_law_1129 ?_
    refine lv_topi (fun y_86 ey_86 => ?_)
    obtain rfl : a_9 = y_86 := ea_9.trans ey_86.symm
    skip
    refine zw_V (As := [.int a_3, .int a_6, .int a_9]) (rest := [.int (-3)]) (wr := [(mki, .inl (cI, 8, .inl (fun _ => 0))), (mpa, .inl (cI, 8, .inl (fun _ => 0))), (mta, .inl (cI, 8, .inl (fun _ => 0))), (mla, .inl (cI, 40, .inl (fun _ => 0))), (msl, .inl (cI, 40, .inl (fun _ => 0))), (mco, .inl (cI, 3, .inl (zL3 5 10 50))), (mso, .inl (cI, 8, .inl (fun _ => 0))), (msi, .inl (cI, 8, .inl (fun _ => 0))), (msh, .inl (cI, 8, .inl (fun _ => 0))), (mce, .inl (cJ, 1280, .inr (.inl (fun _ => 0)))), (mca, .inl (cJ, 160, .inr (.inl (fun _ => 0)))), (mwo, .inl (cI, 64, .inl fw_)), (mnu, .inl (cI, 10, .inl fn_)), (mte, .inl (cI, 3, .inl (fun _ => 0))), (mwa, .inl (cI, 130, .inl (fun _ => 0))), (mke, .inl (cI, 130, .inl (fun _ => 0))), (mma, .inl (cI, 3, .inl (fun _ => 0))), (mth, .inl (cI, 3, .inl (fun _ => 0))), (mtr, .inl (cI, 20, .inl (fun _ => 0)))]) ⟨hx, hb, hml, hown, hts⟩ (c_M_meant l D cI cJ cZ cP cS m0 mrf mki mpa mta mla msl mco mhe mso msi msh mce mca mwo mnu mte mwa mke mma mth mtr (a_3) (a_6) (a_9)  H.size) (cwV 3 hts gq_130 rfl rfl rfl (by decide +kernel) ⟨Nat.le_of_ble_eq_true rfl, Nat.le_of_ble_eq_true rfl⟩) hK hN (hZ.kept hS) hP hD hS hA [0, 1, 8] [2, 3, 4, 5, 6, 7, 9, 10, 11, 12, 13, 14, 15, 16, 17, 18, 19, 20, 21] rfl rfl (by decide) (by decide) (by decide) (va_recv hK hP (ci := 8) (q0 := 0) rfl rfl) rfl hl.1 rfl (Nat.le_of_ble_eq_true rfl) dL_law_1130 ⟨Nat.le_of_ble_eq_true rfl, Nat.le_of_ble_eq_true rfl⟩ (fun r_87 u_88 H locs hr_87 hP hD hS => ?_)
    replace hP : va_P D vwCl [(mki, .inl (cI, 8, .inl (fun _ => 0))), (mpa, .inl (cI, 8, .inl (fun _ => 0))), (mta, .inl (cI, 8, .inl (fun _ => 0))), (mla, .inl (cI, 40, .inl (fun _ => 0))), (msl, .inl (cI, 40, .inl (fun _ => 0))), (mco, .inl (cI, 3, .inl (zL3 5 10 50))), (mso, .inl (cI, 8, .inl (fun _ => 0))), (msi, .inl (cI, 8, .inl (fun _ => 0))), (msh, .inl (cI, 8, .inl (fun _ => 0))), (mce, .inl (cJ, 1280, .inr (.inl (fun _ => 0)))), (mca, .inl (cJ, 160, .inr (.inl (fun _ => 0)))), (mwo, .inl (cI, 64, .inl fw_)), (mnu, .inl (cI, 10, .inl fn_)), (mte, .inl (cI, 3, .inl (fun _ => 0))), (mwa, .inl (cI, 130, .inl (fun _ => 0))), (mke, .inl (cI, 130, .inl (fun _ => 0))), (mma, .inl (cI, 3, .inl (fun _ => 0))), (mth, .inl (cI, 3, .inl (fun _ => 0))), (mtr, .inl (cI, 20, .inl (fun _ => 0)))] H := hP
    replace hD : va_D _ [(mki, .inl (cI, 8, .inl (fun _ => 0))), (mpa, .inl (cI, 8, .inl (fun _ => 0))), (mta, .inl (cI, 8, .inl (fun _ => 0))), (mla, .inl (cI, 40, .inl (fun _ => 0))), (msl, .inl (cI, 40, .inl (fun _ => 0))), (mco, .inl (cI, 3, .inl (zL3 5 10 50))), (mso, .inl (cI, 8, .inl (fun _ => 0))), (msi, .inl (cI, 8, .inl (fun _ => 0))), (msh, .inl (cI, 8, .inl (fun _ => 0))), (mce, .inl (cJ, 1280, .inr (.inl (fun _ => 0)))), (mca, .inl (cJ, 160, .inr (.inl (fun _ => 0)))), (mwo, .inl (cI, 64, .inl fw_)), (mnu, .inl (cI, 10, .inl fn_)), (mte, .inl (cI, 3, .inl (fun _ => 0))), (mwa, .inl (cI, 130, .inl (fun _ => 0))), (mke, .inl (cI, 130, .inl (fun _ => 0))), (mma, .inl (cI, 3, .inl (fun _ => 0))), (mth, .inl (cI, 3, .inl (fun _ => 0))), (mtr, .inl (cI, 20, .inl (fun _ => 0)))] := hD
    rcases hr_87 with ⟨rfl, g_89, g_90⟩ | ⟨rfl, g_91, g_92⟩ | ⟨rfl, g_93, g_94, g_95⟩ | ⟨rfl, g_96, g_97, g_98⟩ | ⟨rfl, g_99, g_100, g_101⟩ | ⟨rfl, g_102, g_103, g_104⟩
    · exfalso; omega
    · exfalso; omega
    · exfalso; omega
    · exfalso; omega
    · refine lv_icmp_eq (tgt := 1371) hx hb dL_law_1133 (by decide) (fun c_105 => ?_) (fun c_105 => ?_)
      · refine lv_iinc (v := 6) (lv' := [(3, .int 6), (2, .ref m0), (1, .ref x0), (0, .ref b)]) hx hb dL_law_1371 hl (k := 0) rfl (by decide) (by decide) rfl (fun ls hl => ?_)
        refine lv_goto (tgt := 18) hx hb dL_law_1374 (by decide) ?_
        refine lv_iload_n hx hb dL_law_18 rfl (lv_at hl 0 rfl) ?_
        refine lv_aload_n hx hb dL_law_19 rfl (lv_at hl 3 rfl) ?_
        refine va_slen hx hb hX hbl hbA hS dL_law_20 ?_
        refine lv_topi (fun y_106 ey_106 => ?_)
        obtain rfl : y_106 = 6 := ey_106.trans (by decide)
        refine lv_bipush (v := 6) hx hb dL_law_21 (by decide) ?_
        refine lv_isub hx hb dL_law_23 ?_
        refine lv_topi (fun y_107 ey_107 => ?_)
        obtain rfl : y_107 = 0 := ey_107.trans (by decide)
        refine lv_icmp_gt (tgt := 1377) hx hb dL_law_24 (by decide) (fun c_108 => ?_) (fun c_108 => ?_)
        · refine lv_iconst (v := 1) hx hb dL_law_1377 (by decide) ?_
          refine va_forget (fun q hq => hS.2.2 q hq) ?_
          refine W.widen (k := 600000) (n := 7302250) (Nat.le_of_ble_eq_true rfl) (Nat.le_of_ble_eq_true rfl) ?_
          exact lw_ret hx hb hr hlocks dL_law_1378
        · exact absurd c_108 (by decide)
      · exact absurd c_105 (by decide)
    · refine lv_icmp_eq (tgt := 1371) hx hb dL_law_1133 (by decide) (fun c_109 => ?_) (fun c_109 => ?_)
      · refine lv_iinc (v := 6) (lv' := [(3, .int 6), (2, .ref m0), (1, .ref x0), (0, .ref b)]) hx hb dL_law_1371 hl (k := 0) rfl (by decide) (by decide) rfl (fun ls hl => ?_)
        refine lv_goto (tgt := 18) hx hb dL_law_1374 (by decide) ?_
        refine lv_iload_n hx hb dL_law_18 rfl (lv_at hl 0 rfl) ?_
        refine lv_aload_n hx hb dL_law_19 rfl (lv_at hl 3 rfl) ?_
        refine va_slen hx hb hX hbl hbA hS dL_law_20 ?_
        refine lv_topi (fun y_110 ey_110 => ?_)
        obtain rfl : y_110 = 6 := ey_110.trans (by decide)
        refine lv_bipush (v := 6) hx hb dL_law_21 (by decide) ?_
        refine lv_isub hx hb dL_law_23 ?_
        refine lv_topi (fun y_111 ey_111 => ?_)
        obtain rfl : y_111 = 0 := ey_111.trans (by decide)
        refine lv_icmp_gt (tgt := 1377) hx hb dL_law_24 (by decide) (fun c_112 => ?_) (fun c_112 => ?_)
        · refine lv_iconst (v := 1) hx hb dL_law_1377 (by decide) ?_
          refine va_forget (fun q hq => hS.2.2 q hq) ?_
          refine W.widen (k := 600000) (n := 7302250) (Nat.le_of_ble_eq_true rfl) (Nat.le_of_ble_eq_true rfl) ?_
          exact lw_ret hx hb hr hlocks dL_law_1378
        · exact absurd c_112 (by decide)
      · exact absurd c_109 (by decide)
