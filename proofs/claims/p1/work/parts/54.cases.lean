set_option maxHeartbeats 8000000 in
set_option maxRecDepth 100000 in
theorem law_case_17 {p : Program} {l : Launch} {e : Env} {s : State} {m : MethodId} {below : List Frame} {meth : Method} {c : Code} {D : va_G} {cI cJ cZ cP cS : ClassId} {b : Nat} {xs_ : Nat → Int32} (x0 xs j0 k0 w0 rd mv xr z0 jp jc zl zs kz kp kc kzl kzs wk wl wc wp ri rl mb m0 mrf mki mpa mta mla msl mco mhe mso msi msh mce mca mwo mnu mte mwa mke mma mth mtr : Nat) (sh el : Nat → Nat) (fw_ fn_ : Nat → Int32) (C0 : lw_At p s m meth c b 6 xs_) (hK : va_K D vwCl (zKT cI cJ cZ cP cS) s) (hN : zN s) (hZ : zSt (fun q : Nat => s.heap.size ≤ q) s s.heap) (H : Heap) (locs : List Loc) (hP : va_P D vwCl (zLW cI cJ cZ cP cS x0 xs j0 k0 w0 rd mv xr z0 jp jc zl zs kz kp kc kzl kzs wk wl wc wp ri rl mb m0 mrf mki mpa mta mla msl mco mhe mso msi msh mce mca mwo mnu mte mwa mke mma mth mtr sh el fw_ fn_) H) (hD : va_D (fun q : Nat => s.heap.size ≤ q) (zLW cI cJ cZ cP cS x0 xs j0 k0 w0 rd mv xr z0 jp jc zl zs kz kp kc kzl kzs wk wl wc wp ri rl mb m0 mrf mki mpa mta mla msl mco mhe mso msi msh mce mca mwo mnu mte mwa mke mma mth mtr sh el fw_ fn_)) (hS : va_S (fun q : Nat => s.heap.size ≤ q) s.heap H locs) (ls : Array Slot) (hl : lv_has ls 4 [(3, .int 0), (2, .ref m0), (1, .ref x0), (0, .ref b)]) : W p l e room_1 s m #[Value.ref b] below meth c H locs 100 10000 (lw_Z below #[Value.ref b] s) (F0 m 828 ls []) := by
  obtain ⟨hx, hb, hr, hml, hown0, hts, hX, hbl, hlocks, hgv⟩ := id C0
  have hown : s.vm.findClass RL = some m.cls := hown0
  have hA : ∀ q : Nat, s.heap.size ≤ q → (fun q : Nat => s.heap.size ≤ q) q := fun _ h => h
  have hbA : ¬ (fun q : Nat => s.heap.size ≤ q) b := Nat.not_le.mpr hbl
  replace hP : va_P D vwCl ((x0, .inr (7, [.ref xs, .ref j0, .ref k0, .ref w0, .ref rd, .ref mv, .ref xr, .int 0, .int (-1)])) :: (xs, .inl (cS, 8, .inr (.inr (.inr (.inr (zS sh)))))) :: (j0, .inr (0, [.ref z0, .ref jp, .ref jc, .int 0, .int 0, .int 0, .int 60, .int 0, .int 1])) :: (z0, .inr (6, [.ref zl, .ref zs, .int 20, .int 0, .int 3])) :: (zl, .inl (cZ, 40, .inl (fun _ => 0))) :: (zs, .inl (cI, 40, .inl (fun _ => 0))) :: (jp, .inl (cP, 8, .inr (.inr (.inr (.inr (fun _ => none)))))) :: (jc, .inl (cI, 3, .inl (zL3 5 10 50))) :: (k0, .inr (0, [.ref kz, .ref kp, .ref kc, .int 0, .int 0, .int 0, .int 60, .int 0, .int 1])) :: (kz, .inr (6, [.ref kzl, .ref kzs, .int 20, .int 0, .int 3])) :: (kzl, .inl (cZ, 40, .inl (fun _ => 0))) :: (kzs, .inl (cI, 40, .inl (fun _ => 0))) :: (kp, .inl (cP, 8, .inr (.inr (.inr (.inr (fun _ => none)))))) :: (kc, .inl (cI, 3, .inl (zL3 5 10 50))) :: (w0, .inr (5, [.ref wk, .ref wl, .ref wc, .ref wp, .int 0, .int 0, .int 0])) :: (wk, .inl (cI, 125, .inl (fun _ => 0))) :: (wl, .inl (cI, 125, .inl (fun _ => 0))) :: (wc, .inl (cI, 3, .inl (fun _ => 0))) :: (wp, .inl (cP, 8, .inr (.inr (.inr (.inr (fun _ => none)))))) :: (rd, .inr (3, [.ref ri, .ref rl, .int 0, .int 0, .int 0, .int (-1), .int 0, .int 0])) :: (ri, .inl (cI, 132, .inl (fun _ => 0))) :: (rl, .inl (cI, 160, .inl (fun _ => 0))) :: (mv, .inr (1, [.ref mb, .int 0, .int 0, .int 0, .int 0])) :: (mb, .inl (cI, 20, .inl (fun _ => 0))) :: (xr, .inl (cI, 8, .inl (fun _ => 0))) :: ((sh 0), .inr (4, [.ref (el 0), .int (-1), .int 0])) :: ((el 0), .inl (cJ, 160, .inr (.inl (fun _ => 0)))) :: ((sh 1), .inr (4, [.ref (el 1), .int (-1), .int 0])) :: ((el 1), .inl (cJ, 160, .inr (.inl (fun _ => 0)))) :: ((sh 2), .inr (4, [.ref (el 2), .int (-1), .int 0])) :: ((el 2), .inl (cJ, 160, .inr (.inl (fun _ => 0)))) :: ((sh 3), .inr (4, [.ref (el 3), .int (-1), .int 0])) :: ((el 3), .inl (cJ, 160, .inr (.inl (fun _ => 0)))) :: ((sh 4), .inr (4, [.ref (el 4), .int (-1), .int 0])) :: ((el 4), .inl (cJ, 160, .inr (.inl (fun _ => 0)))) :: ((sh 5), .inr (4, [.ref (el 5), .int (-1), .int 0])) :: ((el 5), .inl (cJ, 160, .inr (.inl (fun _ => 0)))) :: ((sh 6), .inr (4, [.ref (el 6), .int (-1), .int 0])) :: ((el 6), .inl (cJ, 160, .inr (.inl (fun _ => 0)))) :: ((sh 7), .inr (4, [.ref (el 7), .int (-1), .int 0])) :: ((el 7), .inl (cJ, 160, .inr (.inl (fun _ => 0)))) :: (m0, .inr (8, (.int 0 :: .int 20 :: .int 0 :: .int 0 :: .int 0 :: .int 60 :: .int 0 :: .int 3 :: .int 1 :: .int (-1) :: .ref mrf :: .ref mki :: .ref mpa :: .ref mta :: .ref mla :: .ref msl :: .ref mco :: .ref mhe :: .ref mso :: .ref msi :: .ref msh :: .ref mce :: .ref mca :: .ref mwo :: .ref mnu :: .ref mte :: .int 0 :: .int 0 :: .int 0 :: .int 0 :: .int 0 :: .ref mwa :: .ref mke :: .ref mma :: .ref mth :: .ref mtr :: .int 0 :: .int 0 :: []))) :: (mrf, .inl (cI, 8, .inl (fun _ => 0))) :: (mki, .inl (cI, 8, .inl (fun _ => 0))) :: (mpa, .inl (cI, 8, .inl (fun _ => 0))) :: (mta, .inl (cI, 8, .inl (fun _ => 0))) :: (mla, .inl (cI, 40, .inl (fun _ => 0))) :: (msl, .inl (cI, 40, .inl (fun _ => 0))) :: (mco, .inl (cI, 3, .inl (zL3 5 10 50))) :: (mhe, .inl (cI, 8, .inl (fun _ => 0))) :: (mso, .inl (cI, 8, .inl (fun _ => 0))) :: (msi, .inl (cI, 8, .inl (fun _ => 0))) :: (msh, .inl (cI, 8, .inl (fun _ => 0))) :: (mce, .inl (cJ, 1280, .inr (.inl (fun _ => 0)))) :: (mca, .inl (cJ, 160, .inr (.inl (fun _ => 0)))) :: (mwo, .inl (cI, 64, .inl fw_)) :: (mnu, .inl (cI, 10, .inl fn_)) :: (mte, .inl (cI, 3, .inl (fun _ => 0))) :: (mwa, .inl (cI, 130, .inl (fun _ => 0))) :: (mke, .inl (cI, 130, .inl (fun _ => 0))) :: (mma, .inl (cI, 3, .inl (fun _ => 0))) :: (mth, .inl (cI, 3, .inl (fun _ => 0))) :: (mtr, .inl (cI, 20, .inl (fun _ => 0))) :: []) H := hP
  replace hD : va_D _ ((x0, .inr (7, [.ref xs, .ref j0, .ref k0, .ref w0, .ref rd, .ref mv, .ref xr, .int 0, .int (-1)])) :: (xs, .inl (cS, 8, .inr (.inr (.inr (.inr (zS sh)))))) :: (j0, .inr (0, [.ref z0, .ref jp, .ref jc, .int 0, .int 0, .int 0, .int 60, .int 0, .int 1])) :: (z0, .inr (6, [.ref zl, .ref zs, .int 20, .int 0, .int 3])) :: (zl, .inl (cZ, 40, .inl (fun _ => 0))) :: (zs, .inl (cI, 40, .inl (fun _ => 0))) :: (jp, .inl (cP, 8, .inr (.inr (.inr (.inr (fun _ => none)))))) :: (jc, .inl (cI, 3, .inl (zL3 5 10 50))) :: (k0, .inr (0, [.ref kz, .ref kp, .ref kc, .int 0, .int 0, .int 0, .int 60, .int 0, .int 1])) :: (kz, .inr (6, [.ref kzl, .ref kzs, .int 20, .int 0, .int 3])) :: (kzl, .inl (cZ, 40, .inl (fun _ => 0))) :: (kzs, .inl (cI, 40, .inl (fun _ => 0))) :: (kp, .inl (cP, 8, .inr (.inr (.inr (.inr (fun _ => none)))))) :: (kc, .inl (cI, 3, .inl (zL3 5 10 50))) :: (w0, .inr (5, [.ref wk, .ref wl, .ref wc, .ref wp, .int 0, .int 0, .int 0])) :: (wk, .inl (cI, 125, .inl (fun _ => 0))) :: (wl, .inl (cI, 125, .inl (fun _ => 0))) :: (wc, .inl (cI, 3, .inl (fun _ => 0))) :: (wp, .inl (cP, 8, .inr (.inr (.inr (.inr (fun _ => none)))))) :: (rd, .inr (3, [.ref ri, .ref rl, .int 0, .int 0, .int 0, .int (-1), .int 0, .int 0])) :: (ri, .inl (cI, 132, .inl (fun _ => 0))) :: (rl, .inl (cI, 160, .inl (fun _ => 0))) :: (mv, .inr (1, [.ref mb, .int 0, .int 0, .int 0, .int 0])) :: (mb, .inl (cI, 20, .inl (fun _ => 0))) :: (xr, .inl (cI, 8, .inl (fun _ => 0))) :: ((sh 0), .inr (4, [.ref (el 0), .int (-1), .int 0])) :: ((el 0), .inl (cJ, 160, .inr (.inl (fun _ => 0)))) :: ((sh 1), .inr (4, [.ref (el 1), .int (-1), .int 0])) :: ((el 1), .inl (cJ, 160, .inr (.inl (fun _ => 0)))) :: ((sh 2), .inr (4, [.ref (el 2), .int (-1), .int 0])) :: ((el 2), .inl (cJ, 160, .inr (.inl (fun _ => 0)))) :: ((sh 3), .inr (4, [.ref (el 3), .int (-1), .int 0])) :: ((el 3), .inl (cJ, 160, .inr (.inl (fun _ => 0)))) :: ((sh 4), .inr (4, [.ref (el 4), .int (-1), .int 0])) :: ((el 4), .inl (cJ, 160, .inr (.inl (fun _ => 0)))) :: ((sh 5), .inr (4, [.ref (el 5), .int (-1), .int 0])) :: ((el 5), .inl (cJ, 160, .inr (.inl (fun _ => 0)))) :: ((sh 6), .inr (4, [.ref (el 6), .int (-1), .int 0])) :: ((el 6), .inl (cJ, 160, .inr (.inl (fun _ => 0)))) :: ((sh 7), .inr (4, [.ref (el 7), .int (-1), .int 0])) :: ((el 7), .inl (cJ, 160, .inr (.inl (fun _ => 0)))) :: (m0, .inr (8, (.int 0 :: .int 20 :: .int 0 :: .int 0 :: .int 0 :: .int 60 :: .int 0 :: .int 3 :: .int 1 :: .int (-1) :: .ref mrf :: .ref mki :: .ref mpa :: .ref mta :: .ref mla :: .ref msl :: .ref mco :: .ref mhe :: .ref mso :: .ref msi :: .ref msh :: .ref mce :: .ref mca :: .ref mwo :: .ref mnu :: .ref mte :: .int 0 :: .int 0 :: .int 0 :: .int 0 :: .int 0 :: .ref mwa :: .ref mke :: .ref mma :: .ref mth :: .ref mtr :: .int 0 :: .int 0 :: []))) :: (mrf, .inl (cI, 8, .inl (fun _ => 0))) :: (mki, .inl (cI, 8, .inl (fun _ => 0))) :: (mpa, .inl (cI, 8, .inl (fun _ => 0))) :: (mta, .inl (cI, 8, .inl (fun _ => 0))) :: (mla, .inl (cI, 40, .inl (fun _ => 0))) :: (msl, .inl (cI, 40, .inl (fun _ => 0))) :: (mco, .inl (cI, 3, .inl (zL3 5 10 50))) :: (mhe, .inl (cI, 8, .inl (fun _ => 0))) :: (mso, .inl (cI, 8, .inl (fun _ => 0))) :: (msi, .inl (cI, 8, .inl (fun _ => 0))) :: (msh, .inl (cI, 8, .inl (fun _ => 0))) :: (mce, .inl (cJ, 1280, .inr (.inl (fun _ => 0)))) :: (mca, .inl (cJ, 160, .inr (.inl (fun _ => 0)))) :: (mwo, .inl (cI, 64, .inl fw_)) :: (mnu, .inl (cI, 10, .inl fn_)) :: (mte, .inl (cI, 3, .inl (fun _ => 0))) :: (mwa, .inl (cI, 130, .inl (fun _ => 0))) :: (mke, .inl (cI, 130, .inl (fun _ => 0))) :: (mma, .inl (cI, 3, .inl (fun _ => 0))) :: (mth, .inl (cI, 3, .inl (fun _ => 0))) :: (mtr, .inl (cI, 20, .inl (fun _ => 0))) :: []) := hD
  refine lv_aload_n hx hb dL_law_828 rfl (lv_at hl 2 rfl) ?_
  refine lv_aload_n hx hb dL_law_829 rfl (lv_at hl 3 rfl) ?_
  refine lv_iload_n hx hb dL_law_830 rfl (lv_at hl 0 rfl) ?_
  refine lv_iconst (v := 1) hx hb dL_law_831 (by decide) ?_
  refine lv_iadd hx hb dL_law_832 ?_
  refine lv_topi (fun y_1 ey_1 => ?_)
  obtain rfl : y_1 = 1 := ey_1.trans (by decide)
  refine va_sld hx hb hX hbl hbA hS (zf_in (by decide) (by decide)) dL_law_833 ?_
  refine lv_topi (fun a_3 ea_3 => ?_)
  refine lv_aload_n hx hb dL_law_834 rfl (lv_at hl 3 rfl) ?_
  refine lv_iload_n hx hb dL_law_835 rfl (lv_at hl 0 rfl) ?_
  refine lv_iconst (v := 2) hx hb dL_law_836 (by decide) ?_
  refine lv_iadd hx hb dL_law_837 ?_
  refine lv_topi (fun y_4 ey_4 => ?_)
  obtain rfl : y_4 = 2 := ey_4.trans (by decide)
  refine va_sld hx hb hX hbl hbA hS (zf_in (by decide) (by decide)) dL_law_838 ?_
  refine lv_topi (fun a_6 ea_6 => ?_)
  skip
  refine zw_V (As := [.int a_3, .int a_6]) (rest := []) (wr := ((m0, .inr (8, (.int 0 :: .int 20 :: .int 0 :: .int 0 :: .int 0 :: .int 60 :: .int 0 :: .int 3 :: .int 1 :: .int (-1) :: .ref mrf :: .ref mki :: .ref mpa :: .ref mta :: .ref mla :: .ref msl :: .ref mco :: .ref mhe :: .ref mso :: .ref msi :: .ref msh :: .ref mce :: .ref mca :: .ref mwo :: .ref mnu :: .ref mte :: .int 0 :: .int 0 :: .int 0 :: .int 0 :: .int 0 :: .ref mwa :: .ref mke :: .ref mma :: .ref mth :: .ref mtr :: .int 0 :: .int 0 :: []))) :: (mrf, .inl (cI, 8, .inl (fun _ => 0))) :: (mki, .inl (cI, 8, .inl (fun _ => 0))) :: (mpa, .inl (cI, 8, .inl (fun _ => 0))) :: (mta, .inl (cI, 8, .inl (fun _ => 0))) :: (mla, .inl (cI, 40, .inl (fun _ => 0))) :: (msl, .inl (cI, 40, .inl (fun _ => 0))) :: (mco, .inl (cI, 3, .inl (zL3 5 10 50))) :: (mhe, .inl (cI, 8, .inl (fun _ => 0))) :: (mso, .inl (cI, 8, .inl (fun _ => 0))) :: (msi, .inl (cI, 8, .inl (fun _ => 0))) :: (msh, .inl (cI, 8, .inl (fun _ => 0))) :: (mce, .inl (cJ, 1280, .inr (.inl (fun _ => 0)))) :: (mca, .inl (cJ, 160, .inr (.inl (fun _ => 0)))) :: (mwo, .inl (cI, 64, .inl fw_)) :: (mnu, .inl (cI, 10, .inl fn_)) :: (mte, .inl (cI, 3, .inl (fun _ => 0))) :: (mwa, .inl (cI, 130, .inl (fun _ => 0))) :: (mke, .inl (cI, 130, .inl (fun _ => 0))) :: (mma, .inl (cI, 3, .inl (fun _ => 0))) :: (mth, .inl (cI, 3, .inl (fun _ => 0))) :: (mtr, .inl (cI, 20, .inl (fun _ => 0))) :: [])) ⟨hx, hb, hml, hown, hts⟩ (c_line l D cI cJ cZ cP cS x0 xs j0 k0 w0 rd mv xr jp jc z0 0 0 wk wl wc wp ((fun _ => 0)) ((fun _ => 0)) ((fun _ => 0)) (a_3) (a_6)  H.size) (cwV 2 hts gq_91 rfl rfl rfl (by decide +kernel) ⟨Nat.le_of_ble_eq_true rfl, Nat.le_of_ble_eq_true rfl⟩) hK hN (hZ.kept hS) hP hD hS hA [0, 24, 14, 15, 16, 17, 2, 7] [41, 42, 43, 44, 45, 46, 47, 48, 49, 50, 51, 52, 53, 54, 55, 56, 57, 58, 59, 60, 61, 62] rfl rfl (by decide) (by decide) (by decide) (va_recv hK hP (ci := 7) (q0 := 0) rfl rfl) rfl hl.1 rfl (Nat.le_of_ble_eq_true rfl) dL_law_839 ⟨Nat.le_of_ble_eq_true rfl, Nat.le_of_ble_eq_true rfl⟩ (fun r_7 u_8 H locs hr_7 hP hD hS => ?_)
  replace hP : va_P D vwCl ((m0, .inr (8, (.int 0 :: .int 20 :: .int 0 :: .int 0 :: .int 0 :: .int 60 :: .int 0 :: .int 3 :: .int 1 :: .int (-1) :: .ref mrf :: .ref mki :: .ref mpa :: .ref mta :: .ref mla :: .ref msl :: .ref mco :: .ref mhe :: .ref mso :: .ref msi :: .ref msh :: .ref mce :: .ref mca :: .ref mwo :: .ref mnu :: .ref mte :: .int 0 :: .int 0 :: .int 0 :: .int 0 :: .int 0 :: .ref mwa :: .ref mke :: .ref mma :: .ref mth :: .ref mtr :: .int 0 :: .int 0 :: []))) :: (mrf, .inl (cI, 8, .inl (fun _ => 0))) :: (mki, .inl (cI, 8, .inl (fun _ => 0))) :: (mpa, .inl (cI, 8, .inl (fun _ => 0))) :: (mta, .inl (cI, 8, .inl (fun _ => 0))) :: (mla, .inl (cI, 40, .inl (fun _ => 0))) :: (msl, .inl (cI, 40, .inl (fun _ => 0))) :: (mco, .inl (cI, 3, .inl (zL3 5 10 50))) :: (mhe, .inl (cI, 8, .inl (fun _ => 0))) :: (mso, .inl (cI, 8, .inl (fun _ => 0))) :: (msi, .inl (cI, 8, .inl (fun _ => 0))) :: (msh, .inl (cI, 8, .inl (fun _ => 0))) :: (mce, .inl (cJ, 1280, .inr (.inl (fun _ => 0)))) :: (mca, .inl (cJ, 160, .inr (.inl (fun _ => 0)))) :: (mwo, .inl (cI, 64, .inl fw_)) :: (mnu, .inl (cI, 10, .inl fn_)) :: (mte, .inl (cI, 3, .inl (fun _ => 0))) :: (mwa, .inl (cI, 130, .inl (fun _ => 0))) :: (mke, .inl (cI, 130, .inl (fun _ => 0))) :: (mma, .inl (cI, 3, .inl (fun _ => 0))) :: (mth, .inl (cI, 3, .inl (fun _ => 0))) :: (mtr, .inl (cI, 20, .inl (fun _ => 0))) :: []) H := hP
  replace hD : va_D _ ((m0, .inr (8, (.int 0 :: .int 20 :: .int 0 :: .int 0 :: .int 0 :: .int 60 :: .int 0 :: .int 3 :: .int 1 :: .int (-1) :: .ref mrf :: .ref mki :: .ref mpa :: .ref mta :: .ref mla :: .ref msl :: .ref mco :: .ref mhe :: .ref mso :: .ref msi :: .ref msh :: .ref mce :: .ref mca :: .ref mwo :: .ref mnu :: .ref mte :: .int 0 :: .int 0 :: .int 0 :: .int 0 :: .int 0 :: .ref mwa :: .ref mke :: .ref mma :: .ref mth :: .ref mtr :: .int 0 :: .int 0 :: []))) :: (mrf, .inl (cI, 8, .inl (fun _ => 0))) :: (mki, .inl (cI, 8, .inl (fun _ => 0))) :: (mpa, .inl (cI, 8, .inl (fun _ => 0))) :: (mta, .inl (cI, 8, .inl (fun _ => 0))) :: (mla, .inl (cI, 40, .inl (fun _ => 0))) :: (msl, .inl (cI, 40, .inl (fun _ => 0))) :: (mco, .inl (cI, 3, .inl (zL3 5 10 50))) :: (mhe, .inl (cI, 8, .inl (fun _ => 0))) :: (mso, .inl (cI, 8, .inl (fun _ => 0))) :: (msi, .inl (cI, 8, .inl (fun _ => 0))) :: (msh, .inl (cI, 8, .inl (fun _ => 0))) :: (mce, .inl (cJ, 1280, .inr (.inl (fun _ => 0)))) :: (mca, .inl (cJ, 160, .inr (.inl (fun _ => 0)))) :: (mwo, .inl (cI, 64, .inl fw_)) :: (mnu, .inl (cI, 10, .inl fn_)) :: (mte, .inl (cI, 3, .inl (fun _ => 0))) :: (mwa, .inl (cI, 130, .inl (fun _ => 0))) :: (mke, .inl (cI, 130, .inl (fun _ => 0))) :: (mma, .inl (cI, 3, .inl (fun _ => 0))) :: (mth, .inl (cI, 3, .inl (fun _ => 0))) :: (mtr, .inl (cI, 20, .inl (fun _ => 0))) :: []) := hD
  rcases hr_7 with ⟨rfl, g_9⟩ | ⟨rfl, g_10, g_11⟩ | ⟨rfl, g_12, g_13, g_14⟩ | ⟨rfl, g_15, g_16, g_17, g_18⟩ | ⟨rfl, g_19, g_20, g_21, g_22, g_23, g_24⟩ | ⟨rfl, g_25, g_26, g_27, g_28, g_29, g_30⟩ | ⟨rfl, g_31, g_32, g_33, g_34, g_35, g_36⟩ | ⟨rfl, g_37, g_38, g_39, g_40, g_41, g_42⟩ | ⟨rfl, g_43, g_44, g_45, g_46, g_47, g_48⟩ | ⟨rfl, g_49, g_50, g_51, g_52, g_53, g_54⟩ | ⟨rfl, g_55, g_56, g_57, g_58, g_59, g_60⟩ | ⟨rfl, g_61, g_62, g_63, g_64, g_65, g_66⟩ | ⟨rfl, g_67, g_68, g_69, g_70, g_71, g_72⟩ | ⟨rfl, g_73, g_74, g_75, g_76, g_77, g_78⟩
  · refine lv_aload_n hx hb dL_law_842 rfl (lv_at hl 1 rfl) ?_
    refine lv_aload_n hx hb dL_law_843 rfl (lv_at hl 3 rfl) ?_
    refine lv_iload_n hx hb dL_law_844 rfl (lv_at hl 0 rfl) ?_
    refine lv_iconst (v := 1) hx hb dL_law_845 (by decide) ?_
    refine lv_iadd hx hb dL_law_846 ?_
    refine lv_topi (fun y_79 ey_79 => ?_)
    obtain rfl : y_79 = 1 := ey_79.trans (by decide)
    refine va_sld hx hb hX hbl hbA hS (zf_in (by decide) (by decide)) dL_law_847 ?_
    refine lv_topi (fun y_80 ey_80 => ?_)
    obtain rfl : a_3 = y_80 := ea_3.trans ey_80.symm
    refine lv_aload_n hx hb dL_law_848 rfl (lv_at hl 3 rfl) ?_
    refine lv_iload_n hx hb dL_law_849 rfl (lv_at hl 0 rfl) ?_
    refine lv_iconst (v := 2) hx hb dL_law_850 (by decide) ?_
    refine lv_iadd hx hb dL_law_851 ?_
    refine lv_topi (fun y_81 ey_81 => ?_)
    obtain rfl : y_81 = 2 := ey_81.trans (by decide)
    refine va_sld hx hb hX hbl hbA hS (zf_in (by decide) (by decide)) dL_law_852 ?_
    refine lv_topi (fun y_82 ey_82 => ?_)
    obtain rfl : a_6 = y_82 := ea_6.trans ey_82.symm
    skip
    refine zw_V (As := [.int a_3, .int a_6]) (rest := [.int (-15)]) (wr := [(mki, .inl (cI, 8, .inl (fun _ => 0))), (mpa, .inl (cI, 8, .inl (fun _ => 0))), (mta, .inl (cI, 8, .inl (fun _ => 0))), (mla, .inl (cI, 40, .inl (fun _ => 0))), (msl, .inl (cI, 40, .inl (fun _ => 0))), (mco, .inl (cI, 3, .inl (zL3 5 10 50))), (mhe, .inl (cI, 8, .inl (fun _ => 0))), (mso, .inl (cI, 8, .inl (fun _ => 0))), (msi, .inl (cI, 8, .inl (fun _ => 0))), (msh, .inl (cI, 8, .inl (fun _ => 0))), (mce, .inl (cJ, 1280, .inr (.inl (fun _ => 0)))), (mca, .inl (cJ, 160, .inr (.inl (fun _ => 0)))), (mwo, .inl (cI, 64, .inl fw_)), (mnu, .inl (cI, 10, .inl fn_)), (mte, .inl (cI, 3, .inl (fun _ => 0))), (mwa, .inl (cI, 130, .inl (fun _ => 0))), (mke, .inl (cI, 130, .inl (fun _ => 0))), (mma, .inl (cI, 3, .inl (fun _ => 0))), (mth, .inl (cI, 3, .inl (fun _ => 0))), (mtr, .inl (cI, 20, .inl (fun _ => 0)))]) ⟨hx, hb, hml, hown, hts⟩ (c_M_line l D cI cJ cZ cP cS m0 mrf mki mpa mta mla msl mco mhe mso msi msh mce mca mwo mnu mte mwa mke mma mth mtr (a_3) (a_6)  H.size) (cwV 2 hts gq_94 rfl rfl rfl (by decide +kernel) ⟨Nat.le_of_ble_eq_true rfl, Nat.le_of_ble_eq_true rfl⟩) hK hN (hZ.kept hS) hP hD hS hA [0, 1] [2, 3, 4, 5, 6, 7, 8, 9, 10, 11, 12, 13, 14, 15, 16, 17, 18, 19, 20, 21] rfl rfl (by decide) (by decide) (by decide) (va_recv hK hP (ci := 8) (q0 := 0) rfl rfl) rfl hl.1 rfl (Nat.le_of_ble_eq_true rfl) dL_law_853 ⟨Nat.le_of_ble_eq_true rfl, Nat.le_of_ble_eq_true rfl⟩ (fun r_83 u_84 H locs hr_83 hP hD hS => ?_)
    replace hP : va_P D vwCl [(mki, .inl (cI, 8, .inl (fun _ => 0))), (mpa, .inl (cI, 8, .inl (fun _ => 0))), (mta, .inl (cI, 8, .inl (fun _ => 0))), (mla, .inl (cI, 40, .inl (fun _ => 0))), (msl, .inl (cI, 40, .inl (fun _ => 0))), (mco, .inl (cI, 3, .inl (zL3 5 10 50))), (mhe, .inl (cI, 8, .inl (fun _ => 0))), (mso, .inl (cI, 8, .inl (fun _ => 0))), (msi, .inl (cI, 8, .inl (fun _ => 0))), (msh, .inl (cI, 8, .inl (fun _ => 0))), (mce, .inl (cJ, 1280, .inr (.inl (fun _ => 0)))), (mca, .inl (cJ, 160, .inr (.inl (fun _ => 0)))), (mwo, .inl (cI, 64, .inl fw_)), (mnu, .inl (cI, 10, .inl fn_)), (mte, .inl (cI, 3, .inl (fun _ => 0))), (mwa, .inl (cI, 130, .inl (fun _ => 0))), (mke, .inl (cI, 130, .inl (fun _ => 0))), (mma, .inl (cI, 3, .inl (fun _ => 0))), (mth, .inl (cI, 3, .inl (fun _ => 0))), (mtr, .inl (cI, 20, .inl (fun _ => 0)))] H := hP
    replace hD : va_D _ [(mki, .inl (cI, 8, .inl (fun _ => 0))), (mpa, .inl (cI, 8, .inl (fun _ => 0))), (mta, .inl (cI, 8, .inl (fun _ => 0))), (mla, .inl (cI, 40, .inl (fun _ => 0))), (msl, .inl (cI, 40, .inl (fun _ => 0))), (mco, .inl (cI, 3, .inl (zL3 5 10 50))), (mhe, .inl (cI, 8, .inl (fun _ => 0))), (mso, .inl (cI, 8, .inl (fun _ => 0))), (msi, .inl (cI, 8, .inl (fun _ => 0))), (msh, .inl (cI, 8, .inl (fun _ => 0))), (mce, .inl (cJ, 1280, .inr (.inl (fun _ => 0)))), (mca, .inl (cJ, 160, .inr (.inl (fun _ => 0)))), (mwo, .inl (cI, 64, .inl fw_)), (mnu, .inl (cI, 10, .inl fn_)), (mte, .inl (cI, 3, .inl (fun _ => 0))), (mwa, .inl (cI, 130, .inl (fun _ => 0))), (mke, .inl (cI, 130, .inl (fun _ => 0))), (mma, .inl (cI, 3, .inl (fun _ => 0))), (mth, .inl (cI, 3, .inl (fun _ => 0))), (mtr, .inl (cI, 20, .inl (fun _ => 0)))] := hD
    rcases hr_83 with ⟨rfl, g_85⟩ | ⟨rfl, g_86, g_87, g_88⟩ | ⟨rfl, g_89, g_90, g_91, g_92⟩ | ⟨rfl, g_93, g_94, g_95, g_96, g_97⟩ | ⟨rfl, g_98, g_99, g_100, g_101, g_102⟩ | ⟨rfl, g_103, g_104⟩
    · refine lv_icmp_eq (tgt := 1371) hx hb dL_law_856 (by decide) (fun c_105 => ?_) (fun c_105 => ?_)
      · refine lv_iinc (v := 6) (lv' := [(3, .int 6), (2, .ref m0), (1, .ref x0), (0, .ref b)]) hx hb dL_law_1371 hl (k := 0) rfl (by decide) (by decide) rfl (fun ls hl => ?_)
        refine lv_goto (tgt := 18) hx hb dL_law_1374 (by decide) ?_
        refine lv_iload_n hx hb dL_law_18 rfl (lv_at hl 0 rfl) ?_
        refine lv_aload_n hx hb dL_law_19 rfl (lv_at hl 3 rfl) ?_
        refine va_slen hx hb hX hbl hbA hS dL_law_20 ?_
        refine lv_topi (fun y_106 ey_106 => ?_)
        obtain rfl : y_106 = 6 := ey_106.trans (by decide)
        refine lv_bipush (v := 6) hx hb dL_law_21 (by decide) ?_
        refine lv_isub hx hb dL_law_23 ?_
        refine lv_topi (fun y_107 ey_107 => ?_)
        obtain rfl : y_107 = 0 := ey_107.trans (by decide)
        refine lv_icmp_gt (tgt := 1377) hx hb dL_law_24 (by decide) (fun c_108 => ?_) (fun c_108 => ?_)
        · refine lv_iconst (v := 1) hx hb dL_law_1377 (by decide) ?_
          refine va_forget (fun q hq => hS.2.2 q hq) ?_
          refine W.widen (k := 600000) (n := 7302250) (Nat.le_of_ble_eq_true rfl) (Nat.le_of_ble_eq_true rfl) ?_
          exact lw_ret hx hb hr hlocks dL_law_1378
        · exact absurd c_108 (by decide)
      · exact absurd c_105 (by decide)
    · exfalso; omega
    · exfalso; omega
    · exfalso; omega
    · exfalso; omega
    · exfalso; omega
  · refine lv_aload_n hx hb dL_law_842 rfl (lv_at hl 1 rfl) ?_
    refine lv_aload_n hx hb dL_law_843 rfl (lv_at hl 3 rfl) ?_
    refine lv_iload_n hx hb dL_law_844 rfl (lv_at hl 0 rfl) ?_
    refine lv_iconst (v := 1) hx hb dL_law_845 (by decide) ?_
    refine lv_iadd hx hb dL_law_846 ?_
    refine lv_topi (fun y_109 ey_109 => ?_)
    obtain rfl : y_109 = 1 := ey_109.trans (by decide)
    refine va_sld hx hb hX hbl hbA hS (zf_in (by decide) (by decide)) dL_law_847 ?_
    refine lv_topi (fun y_110 ey_110 => ?_)
    obtain rfl : a_3 = y_110 := ea_3.trans ey_110.symm
    refine lv_aload_n hx hb dL_law_848 rfl (lv_at hl 3 rfl) ?_
    refine lv_iload_n hx hb dL_law_849 rfl (lv_at hl 0 rfl) ?_
    refine lv_iconst (v := 2) hx hb dL_law_850 (by decide) ?_
    refine lv_iadd hx hb dL_law_851 ?_
    refine lv_topi (fun y_111 ey_111 => ?_)
    obtain rfl : y_111 = 2 := ey_111.trans (by decide)
    refine va_sld hx hb hX hbl hbA hS (zf_in (by decide) (by decide)) dL_law_852 ?_
    refine lv_topi (fun y_112 ey_112 => ?_)
    obtain rfl : a_6 = y_112 := ea_6.trans ey_112.symm
    skip
    refine zw_V (As := [.int a_3, .int a_6]) (rest := [.int (-15)]) (wr := [(mki, .inl (cI, 8, .inl (fun _ => 0))), (mpa, .inl (cI, 8, .inl (fun _ => 0))), (mta, .inl (cI, 8, .inl (fun _ => 0))), (mla, .inl (cI, 40, .inl (fun _ => 0))), (msl, .inl (cI, 40, .inl (fun _ => 0))), (mco, .inl (cI, 3, .inl (zL3 5 10 50))), (mhe, .inl (cI, 8, .inl (fun _ => 0))), (mso, .inl (cI, 8, .inl (fun _ => 0))), (msi, .inl (cI, 8, .inl (fun _ => 0))), (msh, .inl (cI, 8, .inl (fun _ => 0))), (mce, .inl (cJ, 1280, .inr (.inl (fun _ => 0)))), (mca, .inl (cJ, 160, .inr (.inl (fun _ => 0)))), (mwo, .inl (cI, 64, .inl fw_)), (mnu, .inl (cI, 10, .inl fn_)), (mte, .inl (cI, 3, .inl (fun _ => 0))), (mwa, .inl (cI, 130, .inl (fun _ => 0))), (mke, .inl (cI, 130, .inl (fun _ => 0))), (mma, .inl (cI, 3, .inl (fun _ => 0))), (mth, .inl (cI, 3, .inl (fun _ => 0))), (mtr, .inl (cI, 20, .inl (fun _ => 0)))]) ⟨hx, hb, hml, hown, hts⟩ (c_M_line l D cI cJ cZ cP cS m0 mrf mki mpa mta mla msl mco mhe mso msi msh mce mca mwo mnu mte mwa mke mma mth mtr (a_3) (a_6)  H.size) (cwV 2 hts gq_94 rfl rfl rfl (by decide +kernel) ⟨Nat.le_of_ble_eq_true rfl, Nat.le_of_ble_eq_true rfl⟩) hK hN (hZ.kept hS) hP hD hS hA [0, 1] [2, 3, 4, 5, 6, 7, 8, 9, 10, 11, 12, 13, 14, 15, 16, 17, 18, 19, 20, 21] rfl rfl (by decide) (by decide) (by decide) (va_recv hK hP (ci := 8) (q0 := 0) rfl rfl) rfl hl.1 rfl (Nat.le_of_ble_eq_true rfl) dL_law_853 ⟨Nat.le_of_ble_eq_true rfl, Nat.le_of_ble_eq_true rfl⟩ (fun r_113 u_114 H locs hr_113 hP hD hS => ?_)
    replace hP : va_P D vwCl [(mki, .inl (cI, 8, .inl (fun _ => 0))), (mpa, .inl (cI, 8, .inl (fun _ => 0))), (mta, .inl (cI, 8, .inl (fun _ => 0))), (mla, .inl (cI, 40, .inl (fun _ => 0))), (msl, .inl (cI, 40, .inl (fun _ => 0))), (mco, .inl (cI, 3, .inl (zL3 5 10 50))), (mhe, .inl (cI, 8, .inl (fun _ => 0))), (mso, .inl (cI, 8, .inl (fun _ => 0))), (msi, .inl (cI, 8, .inl (fun _ => 0))), (msh, .inl (cI, 8, .inl (fun _ => 0))), (mce, .inl (cJ, 1280, .inr (.inl (fun _ => 0)))), (mca, .inl (cJ, 160, .inr (.inl (fun _ => 0)))), (mwo, .inl (cI, 64, .inl fw_)), (mnu, .inl (cI, 10, .inl fn_)), (mte, .inl (cI, 3, .inl (fun _ => 0))), (mwa, .inl (cI, 130, .inl (fun _ => 0))), (mke, .inl (cI, 130, .inl (fun _ => 0))), (mma, .inl (cI, 3, .inl (fun _ => 0))), (mth, .inl (cI, 3, .inl (fun _ => 0))), (mtr, .inl (cI, 20, .inl (fun _ => 0)))] H := hP
    replace hD : va_D _ [(mki, .inl (cI, 8, .inl (fun _ => 0))), (mpa, .inl (cI, 8, .inl (fun _ => 0))), (mta, .inl (cI, 8, .inl (fun _ => 0))), (mla, .inl (cI, 40, .inl (fun _ => 0))), (msl, .inl (cI, 40, .inl (fun _ => 0))), (mco, .inl (cI, 3, .inl (zL3 5 10 50))), (mhe, .inl (cI, 8, .inl (fun _ => 0))), (mso, .inl (cI, 8, .inl (fun _ => 0))), (msi, .inl (cI, 8, .inl (fun _ => 0))), (msh, .inl (cI, 8, .inl (fun _ => 0))), (mce, .inl (cJ, 1280, .inr (.inl (fun _ => 0)))), (mca, .inl (cJ, 160, .inr (.inl (fun _ => 0)))), (mwo, .inl (cI, 64, .inl fw_)), (mnu, .inl (cI, 10, .inl fn_)), (mte, .inl (cI, 3, .inl (fun _ => 0))), (mwa, .inl (cI, 130, .inl (fun _ => 0))), (mke, .inl (cI, 130, .inl (fun _ => 0))), (mma, .inl (cI, 3, .inl (fun _ => 0))), (mth, .inl (cI, 3, .inl (fun _ => 0))), (mtr, .inl (cI, 20, .inl (fun _ => 0)))] := hD
    rcases hr_113 with ⟨rfl, g_115⟩ | ⟨rfl, g_116, g_117, g_118⟩ | ⟨rfl, g_119, g_120, g_121, g_122⟩ | ⟨rfl, g_123, g_124, g_125, g_126, g_127⟩ | ⟨rfl, g_128, g_129, g_130, g_131, g_132⟩ | ⟨rfl, g_133, g_134⟩
    · exfalso; omega
    · exfalso; omega
    · exfalso; omega
    · exfalso; omega
    · exfalso; omega
    · refine lv_icmp_eq (tgt := 1371) hx hb dL_law_856 (by decide) (fun c_135 => ?_) (fun c_135 => ?_)
      · refine lv_iinc (v := 6) (lv' := [(3, .int 6), (2, .ref m0), (1, .ref x0), (0, .ref b)]) hx hb dL_law_1371 hl (k := 0) rfl (by decide) (by decide) rfl (fun ls hl => ?_)
        refine lv_goto (tgt := 18) hx hb dL_law_1374 (by decide) ?_
        refine lv_iload_n hx hb dL_law_18 rfl (lv_at hl 0 rfl) ?_
        refine lv_aload_n hx hb dL_law_19 rfl (lv_at hl 3 rfl) ?_
        refine va_slen hx hb hX hbl hbA hS dL_law_20 ?_
        refine lv_topi (fun y_136 ey_136 => ?_)
        obtain rfl : y_136 = 6 := ey_136.trans (by decide)
        refine lv_bipush (v := 6) hx hb dL_law_21 (by decide) ?_
        refine lv_isub hx hb dL_law_23 ?_
        refine lv_topi (fun y_137 ey_137 => ?_)
        obtain rfl : y_137 = 0 := ey_137.trans (by decide)
        refine lv_icmp_gt (tgt := 1377) hx hb dL_law_24 (by decide) (fun c_138 => ?_) (fun c_138 => ?_)
        · refine lv_iconst (v := 1) hx hb dL_law_1377 (by decide) ?_
          refine va_forget (fun q hq => hS.2.2 q hq) ?_
          refine W.widen (k := 600000) (n := 7302250) (Nat.le_of_ble_eq_true rfl) (Nat.le_of_ble_eq_true rfl) ?_
          exact lw_ret hx hb hr hlocks dL_law_1378
        · exact absurd c_138 (by decide)
      · exact absurd c_135 (by decide)
  · refine lv_aload_n hx hb dL_law_842 rfl (lv_at hl 1 rfl) ?_
    refine lv_aload_n hx hb dL_law_843 rfl (lv_at hl 3 rfl) ?_
    refine lv_iload_n hx hb dL_law_844 rfl (lv_at hl 0 rfl) ?_
    refine lv_iconst (v := 1) hx hb dL_law_845 (by decide) ?_
    refine lv_iadd hx hb dL_law_846 ?_
    refine lv_topi (fun y_139 ey_139 => ?_)
    obtain rfl : y_139 = 1 := ey_139.trans (by decide)
    refine va_sld hx hb hX hbl hbA hS (zf_in (by decide) (by decide)) dL_law_847 ?_
    refine lv_topi (fun y_140 ey_140 => ?_)
    obtain rfl : a_3 = y_140 := ea_3.trans ey_140.symm
    refine lv_aload_n hx hb dL_law_848 rfl (lv_at hl 3 rfl) ?_
    refine lv_iload_n hx hb dL_law_849 rfl (lv_at hl 0 rfl) ?_
    refine lv_iconst (v := 2) hx hb dL_law_850 (by decide) ?_
    refine lv_iadd hx hb dL_law_851 ?_
    refine lv_topi (fun y_141 ey_141 => ?_)
    obtain rfl : y_141 = 2 := ey_141.trans (by decide)
    refine va_sld hx hb hX hbl hbA hS (zf_in (by decide) (by decide)) dL_law_852 ?_
    refine lv_topi (fun y_142 ey_142 => ?_)
    obtain rfl : a_6 = y_142 := ea_6.trans ey_142.symm
    skip
    refine zw_V (As := [.int a_3, .int a_6]) (rest := [.int (-16)]) (wr := [(mki, .inl (cI, 8, .inl (fun _ => 0))), (mpa, .inl (cI, 8, .inl (fun _ => 0))), (mta, .inl (cI, 8, .inl (fun _ => 0))), (mla, .inl (cI, 40, .inl (fun _ => 0))), (msl, .inl (cI, 40, .inl (fun _ => 0))), (mco, .inl (cI, 3, .inl (zL3 5 10 50))), (mhe, .inl (cI, 8, .inl (fun _ => 0))), (mso, .inl (cI, 8, .inl (fun _ => 0))), (msi, .inl (cI, 8, .inl (fun _ => 0))), (msh, .inl (cI, 8, .inl (fun _ => 0))), (mce, .inl (cJ, 1280, .inr (.inl (fun _ => 0)))), (mca, .inl (cJ, 160, .inr (.inl (fun _ => 0)))), (mwo, .inl (cI, 64, .inl fw_)), (mnu, .inl (cI, 10, .inl fn_)), (mte, .inl (cI, 3, .inl (fun _ => 0))), (mwa, .inl (cI, 130, .inl (fun _ => 0))), (mke, .inl (cI, 130, .inl (fun _ => 0))), (mma, .inl (cI, 3, .inl (fun _ => 0))), (mth, .inl (cI, 3, .inl (fun _ => 0))), (mtr, .inl (cI, 20, .inl (fun _ => 0)))]) ⟨hx, hb, hml, hown, hts⟩ (c_M_line l D cI cJ cZ cP cS m0 mrf mki mpa mta mla msl mco mhe mso msi msh mce mca mwo mnu mte mwa mke mma mth mtr (a_3) (a_6)  H.size) (cwV 2 hts gq_94 rfl rfl rfl (by decide +kernel) ⟨Nat.le_of_ble_eq_true rfl, Nat.le_of_ble_eq_true rfl⟩) hK hN (hZ.kept hS) hP hD hS hA [0, 1] [2, 3, 4, 5, 6, 7, 8, 9, 10, 11, 12, 13, 14, 15, 16, 17, 18, 19, 20, 21] rfl rfl (by decide) (by decide) (by decide) (va_recv hK hP (ci := 8) (q0 := 0) rfl rfl) rfl hl.1 rfl (Nat.le_of_ble_eq_true rfl) dL_law_853 ⟨Nat.le_of_ble_eq_true rfl, Nat.le_of_ble_eq_true rfl⟩ (fun r_143 u_144 H locs hr_143 hP hD hS => ?_)
    replace hP : va_P D vwCl [(mki, .inl (cI, 8, .inl (fun _ => 0))), (mpa, .inl (cI, 8, .inl (fun _ => 0))), (mta, .inl (cI, 8, .inl (fun _ => 0))), (mla, .inl (cI, 40, .inl (fun _ => 0))), (msl, .inl (cI, 40, .inl (fun _ => 0))), (mco, .inl (cI, 3, .inl (zL3 5 10 50))), (mhe, .inl (cI, 8, .inl (fun _ => 0))), (mso, .inl (cI, 8, .inl (fun _ => 0))), (msi, .inl (cI, 8, .inl (fun _ => 0))), (msh, .inl (cI, 8, .inl (fun _ => 0))), (mce, .inl (cJ, 1280, .inr (.inl (fun _ => 0)))), (mca, .inl (cJ, 160, .inr (.inl (fun _ => 0)))), (mwo, .inl (cI, 64, .inl fw_)), (mnu, .inl (cI, 10, .inl fn_)), (mte, .inl (cI, 3, .inl (fun _ => 0))), (mwa, .inl (cI, 130, .inl (fun _ => 0))), (mke, .inl (cI, 130, .inl (fun _ => 0))), (mma, .inl (cI, 3, .inl (fun _ => 0))), (mth, .inl (cI, 3, .inl (fun _ => 0))), (mtr, .inl (cI, 20, .inl (fun _ => 0)))] H := hP
    replace hD : va_D _ [(mki, .inl (cI, 8, .inl (fun _ => 0))), (mpa, .inl (cI, 8, .inl (fun _ => 0))), (mta, .inl (cI, 8, .inl (fun _ => 0))), (mla, .inl (cI, 40, .inl (fun _ => 0))), (msl, .inl (cI, 40, .inl (fun _ => 0))), (mco, .inl (cI, 3, .inl (zL3 5 10 50))), (mhe, .inl (cI, 8, .inl (fun _ => 0))), (mso, .inl (cI, 8, .inl (fun _ => 0))), (msi, .inl (cI, 8, .inl (fun _ => 0))), (msh, .inl (cI, 8, .inl (fun _ => 0))), (mce, .inl (cJ, 1280, .inr (.inl (fun _ => 0)))), (mca, .inl (cJ, 160, .inr (.inl (fun _ => 0)))), (mwo, .inl (cI, 64, .inl fw_)), (mnu, .inl (cI, 10, .inl fn_)), (mte, .inl (cI, 3, .inl (fun _ => 0))), (mwa, .inl (cI, 130, .inl (fun _ => 0))), (mke, .inl (cI, 130, .inl (fun _ => 0))), (mma, .inl (cI, 3, .inl (fun _ => 0))), (mth, .inl (cI, 3, .inl (fun _ => 0))), (mtr, .inl (cI, 20, .inl (fun _ => 0)))] := hD
    rcases hr_143 with ⟨rfl, g_145⟩ | ⟨rfl, g_146, g_147, g_148⟩ | ⟨rfl, g_149, g_150, g_151, g_152⟩ | ⟨rfl, g_153, g_154, g_155, g_156, g_157⟩ | ⟨rfl, g_158, g_159, g_160, g_161, g_162⟩ | ⟨rfl, g_163, g_164⟩
    · exfalso; omega
    · refine lv_icmp_eq (tgt := 1371) hx hb dL_law_856 (by decide) (fun c_165 => ?_) (fun c_165 => ?_)
      · refine lv_iinc (v := 6) (lv' := [(3, .int 6), (2, .ref m0), (1, .ref x0), (0, .ref b)]) hx hb dL_law_1371 hl (k := 0) rfl (by decide) (by decide) rfl (fun ls hl => ?_)
        refine lv_goto (tgt := 18) hx hb dL_law_1374 (by decide) ?_
        refine lv_iload_n hx hb dL_law_18 rfl (lv_at hl 0 rfl) ?_
        refine lv_aload_n hx hb dL_law_19 rfl (lv_at hl 3 rfl) ?_
        refine va_slen hx hb hX hbl hbA hS dL_law_20 ?_
        refine lv_topi (fun y_166 ey_166 => ?_)
        obtain rfl : y_166 = 6 := ey_166.trans (by decide)
        refine lv_bipush (v := 6) hx hb dL_law_21 (by decide) ?_
        refine lv_isub hx hb dL_law_23 ?_
        refine lv_topi (fun y_167 ey_167 => ?_)
        obtain rfl : y_167 = 0 := ey_167.trans (by decide)
        refine lv_icmp_gt (tgt := 1377) hx hb dL_law_24 (by decide) (fun c_168 => ?_) (fun c_168 => ?_)
        · refine lv_iconst (v := 1) hx hb dL_law_1377 (by decide) ?_
          refine va_forget (fun q hq => hS.2.2 q hq) ?_
          refine W.widen (k := 600000) (n := 7302250) (Nat.le_of_ble_eq_true rfl) (Nat.le_of_ble_eq_true rfl) ?_
          exact lw_ret hx hb hr hlocks dL_law_1378
        · exact absurd c_168 (by decide)
      · exact absurd c_165 (by decide)
    · exfalso; omega
    · exfalso; omega
    · exfalso; omega
    · exfalso; omega
  · refine lv_aload_n hx hb dL_law_842 rfl (lv_at hl 1 rfl) ?_
    refine lv_aload_n hx hb dL_law_843 rfl (lv_at hl 3 rfl) ?_
    refine lv_iload_n hx hb dL_law_844 rfl (lv_at hl 0 rfl) ?_
    refine lv_iconst (v := 1) hx hb dL_law_845 (by decide) ?_
    refine lv_iadd hx hb dL_law_846 ?_
    refine lv_topi (fun y_169 ey_169 => ?_)
    obtain rfl : y_169 = 1 := ey_169.trans (by decide)
    refine va_sld hx hb hX hbl hbA hS (zf_in (by decide) (by decide)) dL_law_847 ?_
    refine lv_topi (fun y_170 ey_170 => ?_)
    obtain rfl : a_3 = y_170 := ea_3.trans ey_170.symm
    refine lv_aload_n hx hb dL_law_848 rfl (lv_at hl 3 rfl) ?_
    refine lv_iload_n hx hb dL_law_849 rfl (lv_at hl 0 rfl) ?_
    refine lv_iconst (v := 2) hx hb dL_law_850 (by decide) ?_
    refine lv_iadd hx hb dL_law_851 ?_
    refine lv_topi (fun y_171 ey_171 => ?_)
    obtain rfl : y_171 = 2 := ey_171.trans (by decide)
    refine va_sld hx hb hX hbl hbA hS (zf_in (by decide) (by decide)) dL_law_852 ?_
    refine lv_topi (fun y_172 ey_172 => ?_)
    obtain rfl : a_6 = y_172 := ea_6.trans ey_172.symm
    skip
    refine zw_V (As := [.int a_3, .int a_6]) (rest := [.int (-16)]) (wr := [(mki, .inl (cI, 8, .inl (fun _ => 0))), (mpa, .inl (cI, 8, .inl (fun _ => 0))), (mta, .inl (cI, 8, .inl (fun _ => 0))), (mla, .inl (cI, 40, .inl (fun _ => 0))), (msl, .inl (cI, 40, .inl (fun _ => 0))), (mco, .inl (cI, 3, .inl (zL3 5 10 50))), (mhe, .inl (cI, 8, .inl (fun _ => 0))), (mso, .inl (cI, 8, .inl (fun _ => 0))), (msi, .inl (cI, 8, .inl (fun _ => 0))), (msh, .inl (cI, 8, .inl (fun _ => 0))), (mce, .inl (cJ, 1280, .inr (.inl (fun _ => 0)))), (mca, .inl (cJ, 160, .inr (.inl (fun _ => 0)))), (mwo, .inl (cI, 64, .inl fw_)), (mnu, .inl (cI, 10, .inl fn_)), (mte, .inl (cI, 3, .inl (fun _ => 0))), (mwa, .inl (cI, 130, .inl (fun _ => 0))), (mke, .inl (cI, 130, .inl (fun _ => 0))), (mma, .inl (cI, 3, .inl (fun _ => 0))), (mth, .inl (cI, 3, .inl (fun _ => 0))), (mtr, .inl (cI, 20, .inl (fun _ => 0)))]) ⟨hx, hb, hml, hown, hts⟩ (c_M_line l D cI cJ cZ cP cS m0 mrf mki mpa mta mla msl mco mhe mso msi msh mce mca mwo mnu mte mwa mke mma mth mtr (a_3) (a_6)  H.size) (cwV 2 hts gq_94 rfl rfl rfl (by decide +kernel) ⟨Nat.le_of_ble_eq_true rfl, Nat.le_of_ble_eq_true rfl⟩) hK hN (hZ.kept hS) hP hD hS hA [0, 1] [2, 3, 4, 5, 6, 7, 8, 9, 10, 11, 12, 13, 14, 15, 16, 17, 18, 19, 20, 21] rfl rfl (by decide) (by decide) (by decide) (va_recv hK hP (ci := 8) (q0 := 0) rfl rfl) rfl hl.1 rfl (Nat.le_of_ble_eq_true rfl) dL_law_853 ⟨Nat.le_of_ble_eq_true rfl, Nat.le_of_ble_eq_true rfl⟩ (fun r_173 u_174 H locs hr_173 hP hD hS => ?_)
    replace hP : va_P D vwCl [(mki, .inl (cI, 8, .inl (fun _ => 0))), (mpa, .inl (cI, 8, .inl (fun _ => 0))), (mta, .inl (cI, 8, .inl (fun _ => 0))), (mla, .inl (cI, 40, .inl (fun _ => 0))), (msl, .inl (cI, 40, .inl (fun _ => 0))), (mco, .inl (cI, 3, .inl (zL3 5 10 50))), (mhe, .inl (cI, 8, .inl (fun _ => 0))), (mso, .inl (cI, 8, .inl (fun _ => 0))), (msi, .inl (cI, 8, .inl (fun _ => 0))), (msh, .inl (cI, 8, .inl (fun _ => 0))), (mce, .inl (cJ, 1280, .inr (.inl (fun _ => 0)))), (mca, .inl (cJ, 160, .inr (.inl (fun _ => 0)))), (mwo, .inl (cI, 64, .inl fw_)), (mnu, .inl (cI, 10, .inl fn_)), (mte, .inl (cI, 3, .inl (fun _ => 0))), (mwa, .inl (cI, 130, .inl (fun _ => 0))), (mke, .inl (cI, 130, .inl (fun _ => 0))), (mma, .inl (cI, 3, .inl (fun _ => 0))), (mth, .inl (cI, 3, .inl (fun _ => 0))), (mtr, .inl (cI, 20, .inl (fun _ => 0)))] H := hP
    replace hD : va_D _ [(mki, .inl (cI, 8, .inl (fun _ => 0))), (mpa, .inl (cI, 8, .inl (fun _ => 0))), (mta, .inl (cI, 8, .inl (fun _ => 0))), (mla, .inl (cI, 40, .inl (fun _ => 0))), (msl, .inl (cI, 40, .inl (fun _ => 0))), (mco, .inl (cI, 3, .inl (zL3 5 10 50))), (mhe, .inl (cI, 8, .inl (fun _ => 0))), (mso, .inl (cI, 8, .inl (fun _ => 0))), (msi, .inl (cI, 8, .inl (fun _ => 0))), (msh, .inl (cI, 8, .inl (fun _ => 0))), (mce, .inl (cJ, 1280, .inr (.inl (fun _ => 0)))), (mca, .inl (cJ, 160, .inr (.inl (fun _ => 0)))), (mwo, .inl (cI, 64, .inl fw_)), (mnu, .inl (cI, 10, .inl fn_)), (mte, .inl (cI, 3, .inl (fun _ => 0))), (mwa, .inl (cI, 130, .inl (fun _ => 0))), (mke, .inl (cI, 130, .inl (fun _ => 0))), (mma, .inl (cI, 3, .inl (fun _ => 0))), (mth, .inl (cI, 3, .inl (fun _ => 0))), (mtr, .inl (cI, 20, .inl (fun _ => 0)))] := hD
    rcases hr_173 with ⟨rfl, g_175⟩ | ⟨rfl, g_176, g_177, g_178⟩ | ⟨rfl, g_179, g_180, g_181, g_182⟩ | ⟨rfl, g_183, g_184, g_185, g_186, g_187⟩ | ⟨rfl, g_188, g_189, g_190, g_191, g_192⟩ | ⟨rfl, g_193, g_194⟩
    · exfalso; omega
    · exfalso; omega
    · refine lv_icmp_eq (tgt := 1371) hx hb dL_law_856 (by decide) (fun c_195 => ?_) (fun c_195 => ?_)
      · refine lv_iinc (v := 6) (lv' := [(3, .int 6), (2, .ref m0), (1, .ref x0), (0, .ref b)]) hx hb dL_law_1371 hl (k := 0) rfl (by decide) (by decide) rfl (fun ls hl => ?_)
        refine lv_goto (tgt := 18) hx hb dL_law_1374 (by decide) ?_
        refine lv_iload_n hx hb dL_law_18 rfl (lv_at hl 0 rfl) ?_
        refine lv_aload_n hx hb dL_law_19 rfl (lv_at hl 3 rfl) ?_
        refine va_slen hx hb hX hbl hbA hS dL_law_20 ?_
        refine lv_topi (fun y_196 ey_196 => ?_)
        obtain rfl : y_196 = 6 := ey_196.trans (by decide)
        refine lv_bipush (v := 6) hx hb dL_law_21 (by decide) ?_
        refine lv_isub hx hb dL_law_23 ?_
        refine lv_topi (fun y_197 ey_197 => ?_)
        obtain rfl : y_197 = 0 := ey_197.trans (by decide)
        refine lv_icmp_gt (tgt := 1377) hx hb dL_law_24 (by decide) (fun c_198 => ?_) (fun c_198 => ?_)
        · refine lv_iconst (v := 1) hx hb dL_law_1377 (by decide) ?_
          refine va_forget (fun q hq => hS.2.2 q hq) ?_
          refine W.widen (k := 600000) (n := 7302250) (Nat.le_of_ble_eq_true rfl) (Nat.le_of_ble_eq_true rfl) ?_
          exact lw_ret hx hb hr hlocks dL_law_1378
        · exact absurd c_198 (by decide)
      · exact absurd c_195 (by decide)
    · exfalso; omega
    · exfalso; omega
    · exfalso; omega
  · refine lv_aload_n hx hb dL_law_842 rfl (lv_at hl 1 rfl) ?_
    refine lv_aload_n hx hb dL_law_843 rfl (lv_at hl 3 rfl) ?_
    refine lv_iload_n hx hb dL_law_844 rfl (lv_at hl 0 rfl) ?_
    refine lv_iconst (v := 1) hx hb dL_law_845 (by decide) ?_
    refine lv_iadd hx hb dL_law_846 ?_
    refine lv_topi (fun y_199 ey_199 => ?_)
    obtain rfl : y_199 = 1 := ey_199.trans (by decide)
    refine va_sld hx hb hX hbl hbA hS (zf_in (by decide) (by decide)) dL_law_847 ?_
    refine lv_topi (fun y_200 ey_200 => ?_)
    obtain rfl : a_3 = y_200 := ea_3.trans ey_200.symm
    refine lv_aload_n hx hb dL_law_848 rfl (lv_at hl 3 rfl) ?_
    refine lv_iload_n hx hb dL_law_849 rfl (lv_at hl 0 rfl) ?_
    refine lv_iconst (v := 2) hx hb dL_law_850 (by decide) ?_
    refine lv_iadd hx hb dL_law_851 ?_
    refine lv_topi (fun y_201 ey_201 => ?_)
    obtain rfl : y_201 = 2 := ey_201.trans (by decide)
    refine va_sld hx hb hX hbl hbA hS (zf_in (by decide) (by decide)) dL_law_852 ?_
    refine lv_topi (fun y_202 ey_202 => ?_)
    obtain rfl : a_6 = y_202 := ea_6.trans ey_202.symm
    skip
    refine zw_V (As := [.int a_3, .int a_6]) (rest := [.int 0]) (wr := [(mki, .inl (cI, 8, .inl (fun _ => 0))), (mpa, .inl (cI, 8, .inl (fun _ => 0))), (mta, .inl (cI, 8, .inl (fun _ => 0))), (mla, .inl (cI, 40, .inl (fun _ => 0))), (msl, .inl (cI, 40, .inl (fun _ => 0))), (mco, .inl (cI, 3, .inl (zL3 5 10 50))), (mhe, .inl (cI, 8, .inl (fun _ => 0))), (mso, .inl (cI, 8, .inl (fun _ => 0))), (msi, .inl (cI, 8, .inl (fun _ => 0))), (msh, .inl (cI, 8, .inl (fun _ => 0))), (mce, .inl (cJ, 1280, .inr (.inl (fun _ => 0)))), (mca, .inl (cJ, 160, .inr (.inl (fun _ => 0)))), (mwo, .inl (cI, 64, .inl fw_)), (mnu, .inl (cI, 10, .inl fn_)), (mte, .inl (cI, 3, .inl (fun _ => 0))), (mwa, .inl (cI, 130, .inl (fun _ => 0))), (mke, .inl (cI, 130, .inl (fun _ => 0))), (mma, .inl (cI, 3, .inl (fun _ => 0))), (mth, .inl (cI, 3, .inl (fun _ => 0))), (mtr, .inl (cI, 20, .inl (fun _ => 0)))]) ⟨hx, hb, hml, hown, hts⟩ (c_M_line l D cI cJ cZ cP cS m0 mrf mki mpa mta mla msl mco mhe mso msi msh mce mca mwo mnu mte mwa mke mma mth mtr (a_3) (a_6)  H.size) (cwV 2 hts gq_94 rfl rfl rfl (by decide +kernel) ⟨Nat.le_of_ble_eq_true rfl, Nat.le_of_ble_eq_true rfl⟩) hK hN (hZ.kept hS) hP hD hS hA [0, 1] [2, 3, 4, 5, 6, 7, 8, 9, 10, 11, 12, 13, 14, 15, 16, 17, 18, 19, 20, 21] rfl rfl (by decide) (by decide) (by decide) (va_recv hK hP (ci := 8) (q0 := 0) rfl rfl) rfl hl.1 rfl (Nat.le_of_ble_eq_true rfl) dL_law_853 ⟨Nat.le_of_ble_eq_true rfl, Nat.le_of_ble_eq_true rfl⟩ (fun r_203 u_204 H locs hr_203 hP hD hS => ?_)
    replace hP : va_P D vwCl [(mki, .inl (cI, 8, .inl (fun _ => 0))), (mpa, .inl (cI, 8, .inl (fun _ => 0))), (mta, .inl (cI, 8, .inl (fun _ => 0))), (mla, .inl (cI, 40, .inl (fun _ => 0))), (msl, .inl (cI, 40, .inl (fun _ => 0))), (mco, .inl (cI, 3, .inl (zL3 5 10 50))), (mhe, .inl (cI, 8, .inl (fun _ => 0))), (mso, .inl (cI, 8, .inl (fun _ => 0))), (msi, .inl (cI, 8, .inl (fun _ => 0))), (msh, .inl (cI, 8, .inl (fun _ => 0))), (mce, .inl (cJ, 1280, .inr (.inl (fun _ => 0)))), (mca, .inl (cJ, 160, .inr (.inl (fun _ => 0)))), (mwo, .inl (cI, 64, .inl fw_)), (mnu, .inl (cI, 10, .inl fn_)), (mte, .inl (cI, 3, .inl (fun _ => 0))), (mwa, .inl (cI, 130, .inl (fun _ => 0))), (mke, .inl (cI, 130, .inl (fun _ => 0))), (mma, .inl (cI, 3, .inl (fun _ => 0))), (mth, .inl (cI, 3, .inl (fun _ => 0))), (mtr, .inl (cI, 20, .inl (fun _ => 0)))] H := hP
    replace hD : va_D _ [(mki, .inl (cI, 8, .inl (fun _ => 0))), (mpa, .inl (cI, 8, .inl (fun _ => 0))), (mta, .inl (cI, 8, .inl (fun _ => 0))), (mla, .inl (cI, 40, .inl (fun _ => 0))), (msl, .inl (cI, 40, .inl (fun _ => 0))), (mco, .inl (cI, 3, .inl (zL3 5 10 50))), (mhe, .inl (cI, 8, .inl (fun _ => 0))), (mso, .inl (cI, 8, .inl (fun _ => 0))), (msi, .inl (cI, 8, .inl (fun _ => 0))), (msh, .inl (cI, 8, .inl (fun _ => 0))), (mce, .inl (cJ, 1280, .inr (.inl (fun _ => 0)))), (mca, .inl (cJ, 160, .inr (.inl (fun _ => 0)))), (mwo, .inl (cI, 64, .inl fw_)), (mnu, .inl (cI, 10, .inl fn_)), (mte, .inl (cI, 3, .inl (fun _ => 0))), (mwa, .inl (cI, 130, .inl (fun _ => 0))), (mke, .inl (cI, 130, .inl (fun _ => 0))), (mma, .inl (cI, 3, .inl (fun _ => 0))), (mth, .inl (cI, 3, .inl (fun _ => 0))), (mtr, .inl (cI, 20, .inl (fun _ => 0)))] := hD
    rcases hr_203 with ⟨rfl, g_205⟩ | ⟨rfl, g_206, g_207, g_208⟩ | ⟨rfl, g_209, g_210, g_211, g_212⟩ | ⟨rfl, g_213, g_214, g_215, g_216, g_217⟩ | ⟨rfl, g_218, g_219, g_220, g_221, g_222⟩ | ⟨rfl, g_223, g_224⟩
    · exfalso; omega
    · exfalso; omega
    · exfalso; omega
    · exfalso; omega
    · refine lv_icmp_eq (tgt := 1371) hx hb dL_law_856 (by decide) (fun c_225 => ?_) (fun c_225 => ?_)
      · refine lv_iinc (v := 6) (lv' := [(3, .int 6), (2, .ref m0), (1, .ref x0), (0, .ref b)]) hx hb dL_law_1371 hl (k := 0) rfl (by decide) (by decide) rfl (fun ls hl => ?_)
        refine lv_goto (tgt := 18) hx hb dL_law_1374 (by decide) ?_
        refine lv_iload_n hx hb dL_law_18 rfl (lv_at hl 0 rfl) ?_
        refine lv_aload_n hx hb dL_law_19 rfl (lv_at hl 3 rfl) ?_
        refine va_slen hx hb hX hbl hbA hS dL_law_20 ?_
        refine lv_topi (fun y_226 ey_226 => ?_)
        obtain rfl : y_226 = 6 := ey_226.trans (by decide)
        refine lv_bipush (v := 6) hx hb dL_law_21 (by decide) ?_
        refine lv_isub hx hb dL_law_23 ?_
        refine lv_topi (fun y_227 ey_227 => ?_)
        obtain rfl : y_227 = 0 := ey_227.trans (by decide)
        refine lv_icmp_gt (tgt := 1377) hx hb dL_law_24 (by decide) (fun c_228 => ?_) (fun c_228 => ?_)
        · refine lv_iconst (v := 1) hx hb dL_law_1377 (by decide) ?_
          refine va_forget (fun q hq => hS.2.2 q hq) ?_
          refine W.widen (k := 600000) (n := 7302250) (Nat.le_of_ble_eq_true rfl) (Nat.le_of_ble_eq_true rfl) ?_
          exact lw_ret hx hb hr hlocks dL_law_1378
        · exact absurd c_228 (by decide)
      · exact absurd c_225 (by decide)
    · exfalso; omega
  · refine lv_aload_n hx hb dL_law_842 rfl (lv_at hl 1 rfl) ?_
    refine lv_aload_n hx hb dL_law_843 rfl (lv_at hl 3 rfl) ?_
    refine lv_iload_n hx hb dL_law_844 rfl (lv_at hl 0 rfl) ?_
    refine lv_iconst (v := 1) hx hb dL_law_845 (by decide) ?_
    refine lv_iadd hx hb dL_law_846 ?_
    refine lv_topi (fun y_229 ey_229 => ?_)
    obtain rfl : y_229 = 1 := ey_229.trans (by decide)
    refine va_sld hx hb hX hbl hbA hS (zf_in (by decide) (by decide)) dL_law_847 ?_
    refine lv_topi (fun y_230 ey_230 => ?_)
    obtain rfl : a_3 = y_230 := ea_3.trans ey_230.symm
    refine lv_aload_n hx hb dL_law_848 rfl (lv_at hl 3 rfl) ?_
    refine lv_iload_n hx hb dL_law_849 rfl (lv_at hl 0 rfl) ?_
    refine lv_iconst (v := 2) hx hb dL_law_850 (by decide) ?_
    refine lv_iadd hx hb dL_law_851 ?_
    refine lv_topi (fun y_231 ey_231 => ?_)
    obtain rfl : y_231 = 2 := ey_231.trans (by decide)
    refine va_sld hx hb hX hbl hbA hS (zf_in (by decide) (by decide)) dL_law_852 ?_
    refine lv_topi (fun y_232 ey_232 => ?_)
    obtain rfl : a_6 = y_232 := ea_6.trans ey_232.symm
    skip
    refine zw_V (As := [.int a_3, .int a_6]) (rest := [.int (-1)]) (wr := [(mki, .inl (cI, 8, .inl (fun _ => 0))), (mpa, .inl (cI, 8, .inl (fun _ => 0))), (mta, .inl (cI, 8, .inl (fun _ => 0))), (mla, .inl (cI, 40, .inl (fun _ => 0))), (msl, .inl (cI, 40, .inl (fun _ => 0))), (mco, .inl (cI, 3, .inl (zL3 5 10 50))), (mhe, .inl (cI, 8, .inl (fun _ => 0))), (mso, .inl (cI, 8, .inl (fun _ => 0))), (msi, .inl (cI, 8, .inl (fun _ => 0))), (msh, .inl (cI, 8, .inl (fun _ => 0))), (mce, .inl (cJ, 1280, .inr (.inl (fun _ => 0)))), (mca, .inl (cJ, 160, .inr (.inl (fun _ => 0)))), (mwo, .inl (cI, 64, .inl fw_)), (mnu, .inl (cI, 10, .inl fn_)), (mte, .inl (cI, 3, .inl (fun _ => 0))), (mwa, .inl (cI, 130, .inl (fun _ => 0))), (mke, .inl (cI, 130, .inl (fun _ => 0))), (mma, .inl (cI, 3, .inl (fun _ => 0))), (mth, .inl (cI, 3, .inl (fun _ => 0))), (mtr, .inl (cI, 20, .inl (fun _ => 0)))]) ⟨hx, hb, hml, hown, hts⟩ (c_M_line l D cI cJ cZ cP cS m0 mrf mki mpa mta mla msl mco mhe mso msi msh mce mca mwo mnu mte mwa mke mma mth mtr (a_3) (a_6)  H.size) (cwV 2 hts gq_94 rfl rfl rfl (by decide +kernel) ⟨Nat.le_of_ble_eq_true rfl, Nat.le_of_ble_eq_true rfl⟩) hK hN (hZ.kept hS) hP hD hS hA [0, 1] [2, 3, 4, 5, 6, 7, 8, 9, 10, 11, 12, 13, 14, 15, 16, 17, 18, 19, 20, 21] rfl rfl (by decide) (by decide) (by decide) (va_recv hK hP (ci := 8) (q0 := 0) rfl rfl) rfl hl.1 rfl (Nat.le_of_ble_eq_true rfl) dL_law_853 ⟨Nat.le_of_ble_eq_true rfl, Nat.le_of_ble_eq_true rfl⟩ (fun r_233 u_234 H locs hr_233 hP hD hS => ?_)
    replace hP : va_P D vwCl [(mki, .inl (cI, 8, .inl (fun _ => 0))), (mpa, .inl (cI, 8, .inl (fun _ => 0))), (mta, .inl (cI, 8, .inl (fun _ => 0))), (mla, .inl (cI, 40, .inl (fun _ => 0))), (msl, .inl (cI, 40, .inl (fun _ => 0))), (mco, .inl (cI, 3, .inl (zL3 5 10 50))), (mhe, .inl (cI, 8, .inl (fun _ => 0))), (mso, .inl (cI, 8, .inl (fun _ => 0))), (msi, .inl (cI, 8, .inl (fun _ => 0))), (msh, .inl (cI, 8, .inl (fun _ => 0))), (mce, .inl (cJ, 1280, .inr (.inl (fun _ => 0)))), (mca, .inl (cJ, 160, .inr (.inl (fun _ => 0)))), (mwo, .inl (cI, 64, .inl fw_)), (mnu, .inl (cI, 10, .inl fn_)), (mte, .inl (cI, 3, .inl (fun _ => 0))), (mwa, .inl (cI, 130, .inl (fun _ => 0))), (mke, .inl (cI, 130, .inl (fun _ => 0))), (mma, .inl (cI, 3, .inl (fun _ => 0))), (mth, .inl (cI, 3, .inl (fun _ => 0))), (mtr, .inl (cI, 20, .inl (fun _ => 0)))] H := hP
    replace hD : va_D _ [(mki, .inl (cI, 8, .inl (fun _ => 0))), (mpa, .inl (cI, 8, .inl (fun _ => 0))), (mta, .inl (cI, 8, .inl (fun _ => 0))), (mla, .inl (cI, 40, .inl (fun _ => 0))), (msl, .inl (cI, 40, .inl (fun _ => 0))), (mco, .inl (cI, 3, .inl (zL3 5 10 50))), (mhe, .inl (cI, 8, .inl (fun _ => 0))), (mso, .inl (cI, 8, .inl (fun _ => 0))), (msi, .inl (cI, 8, .inl (fun _ => 0))), (msh, .inl (cI, 8, .inl (fun _ => 0))), (mce, .inl (cJ, 1280, .inr (.inl (fun _ => 0)))), (mca, .inl (cJ, 160, .inr (.inl (fun _ => 0)))), (mwo, .inl (cI, 64, .inl fw_)), (mnu, .inl (cI, 10, .inl fn_)), (mte, .inl (cI, 3, .inl (fun _ => 0))), (mwa, .inl (cI, 130, .inl (fun _ => 0))), (mke, .inl (cI, 130, .inl (fun _ => 0))), (mma, .inl (cI, 3, .inl (fun _ => 0))), (mth, .inl (cI, 3, .inl (fun _ => 0))), (mtr, .inl (cI, 20, .inl (fun _ => 0)))] := hD
    rcases hr_233 with ⟨rfl, g_235⟩ | ⟨rfl, g_236, g_237, g_238⟩ | ⟨rfl, g_239, g_240, g_241, g_242⟩ | ⟨rfl, g_243, g_244, g_245, g_246, g_247⟩ | ⟨rfl, g_248, g_249, g_250, g_251, g_252⟩ | ⟨rfl, g_253, g_254⟩
    · exfalso; omega
    · exfalso; omega
    · exfalso; omega
    · refine lv_icmp_eq (tgt := 1371) hx hb dL_law_856 (by decide) (fun c_255 => ?_) (fun c_255 => ?_)
      · refine lv_iinc (v := 6) (lv' := [(3, .int 6), (2, .ref m0), (1, .ref x0), (0, .ref b)]) hx hb dL_law_1371 hl (k := 0) rfl (by decide) (by decide) rfl (fun ls hl => ?_)
        refine lv_goto (tgt := 18) hx hb dL_law_1374 (by decide) ?_
        refine lv_iload_n hx hb dL_law_18 rfl (lv_at hl 0 rfl) ?_
        refine lv_aload_n hx hb dL_law_19 rfl (lv_at hl 3 rfl) ?_
        refine va_slen hx hb hX hbl hbA hS dL_law_20 ?_
        refine lv_topi (fun y_256 ey_256 => ?_)
        obtain rfl : y_256 = 6 := ey_256.trans (by decide)
        refine lv_bipush (v := 6) hx hb dL_law_21 (by decide) ?_
        refine lv_isub hx hb dL_law_23 ?_
        refine lv_topi (fun y_257 ey_257 => ?_)
        obtain rfl : y_257 = 0 := ey_257.trans (by decide)
        refine lv_icmp_gt (tgt := 1377) hx hb dL_law_24 (by decide) (fun c_258 => ?_) (fun c_258 => ?_)
        · refine lv_iconst (v := 1) hx hb dL_law_1377 (by decide) ?_
          refine va_forget (fun q hq => hS.2.2 q hq) ?_
          refine W.widen (k := 600000) (n := 7302250) (Nat.le_of_ble_eq_true rfl) (Nat.le_of_ble_eq_true rfl) ?_
          exact lw_ret hx hb hr hlocks dL_law_1378
        · exact absurd c_258 (by decide)
      · exact absurd c_255 (by decide)
    · exfalso; omega
    · exfalso; omega
  · refine lv_aload_n hx hb dL_law_842 rfl (lv_at hl 1 rfl) ?_
    refine lv_aload_n hx hb dL_law_843 rfl (lv_at hl 3 rfl) ?_
    refine lv_iload_n hx hb dL_law_844 rfl (lv_at hl 0 rfl) ?_
    refine lv_iconst (v := 1) hx hb dL_law_845 (by decide) ?_
    refine lv_iadd hx hb dL_law_846 ?_
    refine lv_topi (fun y_259 ey_259 => ?_)
    obtain rfl : y_259 = 1 := ey_259.trans (by decide)
    refine va_sld hx hb hX hbl hbA hS (zf_in (by decide) (by decide)) dL_law_847 ?_
    refine lv_topi (fun y_260 ey_260 => ?_)
    obtain rfl : a_3 = y_260 := ea_3.trans ey_260.symm
    refine lv_aload_n hx hb dL_law_848 rfl (lv_at hl 3 rfl) ?_
    refine lv_iload_n hx hb dL_law_849 rfl (lv_at hl 0 rfl) ?_
    refine lv_iconst (v := 2) hx hb dL_law_850 (by decide) ?_
    refine lv_iadd hx hb dL_law_851 ?_
    refine lv_topi (fun y_261 ey_261 => ?_)
    obtain rfl : y_261 = 2 := ey_261.trans (by decide)
    refine va_sld hx hb hX hbl hbA hS (zf_in (by decide) (by decide)) dL_law_852 ?_
    refine lv_topi (fun y_262 ey_262 => ?_)
    obtain rfl : a_6 = y_262 := ea_6.trans ey_262.symm
    skip
    refine zw_V (As := [.int a_3, .int a_6]) (rest := [.int 0]) (wr := [(mki, .inl (cI, 8, .inl (fun _ => 0))), (mpa, .inl (cI, 8, .inl (fun _ => 0))), (mta, .inl (cI, 8, .inl (fun _ => 0))), (mla, .inl (cI, 40, .inl (fun _ => 0))), (msl, .inl (cI, 40, .inl (fun _ => 0))), (mco, .inl (cI, 3, .inl (zL3 5 10 50))), (mhe, .inl (cI, 8, .inl (fun _ => 0))), (mso, .inl (cI, 8, .inl (fun _ => 0))), (msi, .inl (cI, 8, .inl (fun _ => 0))), (msh, .inl (cI, 8, .inl (fun _ => 0))), (mce, .inl (cJ, 1280, .inr (.inl (fun _ => 0)))), (mca, .inl (cJ, 160, .inr (.inl (fun _ => 0)))), (mwo, .inl (cI, 64, .inl fw_)), (mnu, .inl (cI, 10, .inl fn_)), (mte, .inl (cI, 3, .inl (fun _ => 0))), (mwa, .inl (cI, 130, .inl (fun _ => 0))), (mke, .inl (cI, 130, .inl (fun _ => 0))), (mma, .inl (cI, 3, .inl (fun _ => 0))), (mth, .inl (cI, 3, .inl (fun _ => 0))), (mtr, .inl (cI, 20, .inl (fun _ => 0)))]) ⟨hx, hb, hml, hown, hts⟩ (c_M_line l D cI cJ cZ cP cS m0 mrf mki mpa mta mla msl mco mhe mso msi msh mce mca mwo mnu mte mwa mke mma mth mtr (a_3) (a_6)  H.size) (cwV 2 hts gq_94 rfl rfl rfl (by decide +kernel) ⟨Nat.le_of_ble_eq_true rfl, Nat.le_of_ble_eq_true rfl⟩) hK hN (hZ.kept hS) hP hD hS hA [0, 1] [2, 3, 4, 5, 6, 7, 8, 9, 10, 11, 12, 13, 14, 15, 16, 17, 18, 19, 20, 21] rfl rfl (by decide) (by decide) (by decide) (va_recv hK hP (ci := 8) (q0 := 0) rfl rfl) rfl hl.1 rfl (Nat.le_of_ble_eq_true rfl) dL_law_853 ⟨Nat.le_of_ble_eq_true rfl, Nat.le_of_ble_eq_true rfl⟩ (fun r_263 u_264 H locs hr_263 hP hD hS => ?_)
    replace hP : va_P D vwCl [(mki, .inl (cI, 8, .inl (fun _ => 0))), (mpa, .inl (cI, 8, .inl (fun _ => 0))), (mta, .inl (cI, 8, .inl (fun _ => 0))), (mla, .inl (cI, 40, .inl (fun _ => 0))), (msl, .inl (cI, 40, .inl (fun _ => 0))), (mco, .inl (cI, 3, .inl (zL3 5 10 50))), (mhe, .inl (cI, 8, .inl (fun _ => 0))), (mso, .inl (cI, 8, .inl (fun _ => 0))), (msi, .inl (cI, 8, .inl (fun _ => 0))), (msh, .inl (cI, 8, .inl (fun _ => 0))), (mce, .inl (cJ, 1280, .inr (.inl (fun _ => 0)))), (mca, .inl (cJ, 160, .inr (.inl (fun _ => 0)))), (mwo, .inl (cI, 64, .inl fw_)), (mnu, .inl (cI, 10, .inl fn_)), (mte, .inl (cI, 3, .inl (fun _ => 0))), (mwa, .inl (cI, 130, .inl (fun _ => 0))), (mke, .inl (cI, 130, .inl (fun _ => 0))), (mma, .inl (cI, 3, .inl (fun _ => 0))), (mth, .inl (cI, 3, .inl (fun _ => 0))), (mtr, .inl (cI, 20, .inl (fun _ => 0)))] H := hP
    replace hD : va_D _ [(mki, .inl (cI, 8, .inl (fun _ => 0))), (mpa, .inl (cI, 8, .inl (fun _ => 0))), (mta, .inl (cI, 8, .inl (fun _ => 0))), (mla, .inl (cI, 40, .inl (fun _ => 0))), (msl, .inl (cI, 40, .inl (fun _ => 0))), (mco, .inl (cI, 3, .inl (zL3 5 10 50))), (mhe, .inl (cI, 8, .inl (fun _ => 0))), (mso, .inl (cI, 8, .inl (fun _ => 0))), (msi, .inl (cI, 8, .inl (fun _ => 0))), (msh, .inl (cI, 8, .inl (fun _ => 0))), (mce, .inl (cJ, 1280, .inr (.inl (fun _ => 0)))), (mca, .inl (cJ, 160, .inr (.inl (fun _ => 0)))), (mwo, .inl (cI, 64, .inl fw_)), (mnu, .inl (cI, 10, .inl fn_)), (mte, .inl (cI, 3, .inl (fun _ => 0))), (mwa, .inl (cI, 130, .inl (fun _ => 0))), (mke, .inl (cI, 130, .inl (fun _ => 0))), (mma, .inl (cI, 3, .inl (fun _ => 0))), (mth, .inl (cI, 3, .inl (fun _ => 0))), (mtr, .inl (cI, 20, .inl (fun _ => 0)))] := hD
    rcases hr_263 with ⟨rfl, g_265⟩ | ⟨rfl, g_266, g_267, g_268⟩ | ⟨rfl, g_269, g_270, g_271, g_272⟩ | ⟨rfl, g_273, g_274, g_275, g_276, g_277⟩ | ⟨rfl, g_278, g_279, g_280, g_281, g_282⟩ | ⟨rfl, g_283, g_284⟩
    · exfalso; omega
    · exfalso; omega
    · exfalso; omega
    · exfalso; omega
    · refine lv_icmp_eq (tgt := 1371) hx hb dL_law_856 (by decide) (fun c_285 => ?_) (fun c_285 => ?_)
      · refine lv_iinc (v := 6) (lv' := [(3, .int 6), (2, .ref m0), (1, .ref x0), (0, .ref b)]) hx hb dL_law_1371 hl (k := 0) rfl (by decide) (by decide) rfl (fun ls hl => ?_)
        refine lv_goto (tgt := 18) hx hb dL_law_1374 (by decide) ?_
        refine lv_iload_n hx hb dL_law_18 rfl (lv_at hl 0 rfl) ?_
        refine lv_aload_n hx hb dL_law_19 rfl (lv_at hl 3 rfl) ?_
        refine va_slen hx hb hX hbl hbA hS dL_law_20 ?_
        refine lv_topi (fun y_286 ey_286 => ?_)
        obtain rfl : y_286 = 6 := ey_286.trans (by decide)
        refine lv_bipush (v := 6) hx hb dL_law_21 (by decide) ?_
        refine lv_isub hx hb dL_law_23 ?_
        refine lv_topi (fun y_287 ey_287 => ?_)
        obtain rfl : y_287 = 0 := ey_287.trans (by decide)
        refine lv_icmp_gt (tgt := 1377) hx hb dL_law_24 (by decide) (fun c_288 => ?_) (fun c_288 => ?_)
        · refine lv_iconst (v := 1) hx hb dL_law_1377 (by decide) ?_
          refine va_forget (fun q hq => hS.2.2 q hq) ?_
          refine W.widen (k := 600000) (n := 7302250) (Nat.le_of_ble_eq_true rfl) (Nat.le_of_ble_eq_true rfl) ?_
          exact lw_ret hx hb hr hlocks dL_law_1378
        · exact absurd c_288 (by decide)
      · exact absurd c_285 (by decide)
    · exfalso; omega
  · refine lv_aload_n hx hb dL_law_842 rfl (lv_at hl 1 rfl) ?_
    refine lv_aload_n hx hb dL_law_843 rfl (lv_at hl 3 rfl) ?_
    refine lv_iload_n hx hb dL_law_844 rfl (lv_at hl 0 rfl) ?_
    refine lv_iconst (v := 1) hx hb dL_law_845 (by decide) ?_
    refine lv_iadd hx hb dL_law_846 ?_
    refine lv_topi (fun y_289 ey_289 => ?_)
    obtain rfl : y_289 = 1 := ey_289.trans (by decide)
    refine va_sld hx hb hX hbl hbA hS (zf_in (by decide) (by decide)) dL_law_847 ?_
    refine lv_topi (fun y_290 ey_290 => ?_)
    obtain rfl : a_3 = y_290 := ea_3.trans ey_290.symm
    refine lv_aload_n hx hb dL_law_848 rfl (lv_at hl 3 rfl) ?_
    refine lv_iload_n hx hb dL_law_849 rfl (lv_at hl 0 rfl) ?_
    refine lv_iconst (v := 2) hx hb dL_law_850 (by decide) ?_
    refine lv_iadd hx hb dL_law_851 ?_
    refine lv_topi (fun y_291 ey_291 => ?_)
    obtain rfl : y_291 = 2 := ey_291.trans (by decide)
    refine va_sld hx hb hX hbl hbA hS (zf_in (by decide) (by decide)) dL_law_852 ?_
    refine lv_topi (fun y_292 ey_292 => ?_)
    obtain rfl : a_6 = y_292 := ea_6.trans ey_292.symm
    skip
    refine zw_V (As := [.int a_3, .int a_6]) (rest := [.int (-1)]) (wr := [(mki, .inl (cI, 8, .inl (fun _ => 0))), (mpa, .inl (cI, 8, .inl (fun _ => 0))), (mta, .inl (cI, 8, .inl (fun _ => 0))), (mla, .inl (cI, 40, .inl (fun _ => 0))), (msl, .inl (cI, 40, .inl (fun _ => 0))), (mco, .inl (cI, 3, .inl (zL3 5 10 50))), (mhe, .inl (cI, 8, .inl (fun _ => 0))), (mso, .inl (cI, 8, .inl (fun _ => 0))), (msi, .inl (cI, 8, .inl (fun _ => 0))), (msh, .inl (cI, 8, .inl (fun _ => 0))), (mce, .inl (cJ, 1280, .inr (.inl (fun _ => 0)))), (mca, .inl (cJ, 160, .inr (.inl (fun _ => 0)))), (mwo, .inl (cI, 64, .inl fw_)), (mnu, .inl (cI, 10, .inl fn_)), (mte, .inl (cI, 3, .inl (fun _ => 0))), (mwa, .inl (cI, 130, .inl (fun _ => 0))), (mke, .inl (cI, 130, .inl (fun _ => 0))), (mma, .inl (cI, 3, .inl (fun _ => 0))), (mth, .inl (cI, 3, .inl (fun _ => 0))), (mtr, .inl (cI, 20, .inl (fun _ => 0)))]) ⟨hx, hb, hml, hown, hts⟩ (c_M_line l D cI cJ cZ cP cS m0 mrf mki mpa mta mla msl mco mhe mso msi msh mce mca mwo mnu mte mwa mke mma mth mtr (a_3) (a_6)  H.size) (cwV 2 hts gq_94 rfl rfl rfl (by decide +kernel) ⟨Nat.le_of_ble_eq_true rfl, Nat.le_of_ble_eq_true rfl⟩) hK hN (hZ.kept hS) hP hD hS hA [0, 1] [2, 3, 4, 5, 6, 7, 8, 9, 10, 11, 12, 13, 14, 15, 16, 17, 18, 19, 20, 21] rfl rfl (by decide) (by decide) (by decide) (va_recv hK hP (ci := 8) (q0 := 0) rfl rfl) rfl hl.1 rfl (Nat.le_of_ble_eq_true rfl) dL_law_853 ⟨Nat.le_of_ble_eq_true rfl, Nat.le_of_ble_eq_true rfl⟩ (fun r_293 u_294 H locs hr_293 hP hD hS => ?_)
    replace hP : va_P D vwCl [(mki, .inl (cI, 8, .inl (fun _ => 0))), (mpa, .inl (cI, 8, .inl (fun _ => 0))), (mta, .inl (cI, 8, .inl (fun _ => 0))), (mla, .inl (cI, 40, .inl (fun _ => 0))), (msl, .inl (cI, 40, .inl (fun _ => 0))), (mco, .inl (cI, 3, .inl (zL3 5 10 50))), (mhe, .inl (cI, 8, .inl (fun _ => 0))), (mso, .inl (cI, 8, .inl (fun _ => 0))), (msi, .inl (cI, 8, .inl (fun _ => 0))), (msh, .inl (cI, 8, .inl (fun _ => 0))), (mce, .inl (cJ, 1280, .inr (.inl (fun _ => 0)))), (mca, .inl (cJ, 160, .inr (.inl (fun _ => 0)))), (mwo, .inl (cI, 64, .inl fw_)), (mnu, .inl (cI, 10, .inl fn_)), (mte, .inl (cI, 3, .inl (fun _ => 0))), (mwa, .inl (cI, 130, .inl (fun _ => 0))), (mke, .inl (cI, 130, .inl (fun _ => 0))), (mma, .inl (cI, 3, .inl (fun _ => 0))), (mth, .inl (cI, 3, .inl (fun _ => 0))), (mtr, .inl (cI, 20, .inl (fun _ => 0)))] H := hP
    replace hD : va_D _ [(mki, .inl (cI, 8, .inl (fun _ => 0))), (mpa, .inl (cI, 8, .inl (fun _ => 0))), (mta, .inl (cI, 8, .inl (fun _ => 0))), (mla, .inl (cI, 40, .inl (fun _ => 0))), (msl, .inl (cI, 40, .inl (fun _ => 0))), (mco, .inl (cI, 3, .inl (zL3 5 10 50))), (mhe, .inl (cI, 8, .inl (fun _ => 0))), (mso, .inl (cI, 8, .inl (fun _ => 0))), (msi, .inl (cI, 8, .inl (fun _ => 0))), (msh, .inl (cI, 8, .inl (fun _ => 0))), (mce, .inl (cJ, 1280, .inr (.inl (fun _ => 0)))), (mca, .inl (cJ, 160, .inr (.inl (fun _ => 0)))), (mwo, .inl (cI, 64, .inl fw_)), (mnu, .inl (cI, 10, .inl fn_)), (mte, .inl (cI, 3, .inl (fun _ => 0))), (mwa, .inl (cI, 130, .inl (fun _ => 0))), (mke, .inl (cI, 130, .inl (fun _ => 0))), (mma, .inl (cI, 3, .inl (fun _ => 0))), (mth, .inl (cI, 3, .inl (fun _ => 0))), (mtr, .inl (cI, 20, .inl (fun _ => 0)))] := hD
    rcases hr_293 with ⟨rfl, g_295⟩ | ⟨rfl, g_296, g_297, g_298⟩ | ⟨rfl, g_299, g_300, g_301, g_302⟩ | ⟨rfl, g_303, g_304, g_305, g_306, g_307⟩ | ⟨rfl, g_308, g_309, g_310, g_311, g_312⟩ | ⟨rfl, g_313, g_314⟩
    · exfalso; omega
    · exfalso; omega
    · exfalso; omega
    · refine lv_icmp_eq (tgt := 1371) hx hb dL_law_856 (by decide) (fun c_315 => ?_) (fun c_315 => ?_)
      · refine lv_iinc (v := 6) (lv' := [(3, .int 6), (2, .ref m0), (1, .ref x0), (0, .ref b)]) hx hb dL_law_1371 hl (k := 0) rfl (by decide) (by decide) rfl (fun ls hl => ?_)
        refine lv_goto (tgt := 18) hx hb dL_law_1374 (by decide) ?_
        refine lv_iload_n hx hb dL_law_18 rfl (lv_at hl 0 rfl) ?_
        refine lv_aload_n hx hb dL_law_19 rfl (lv_at hl 3 rfl) ?_
        refine va_slen hx hb hX hbl hbA hS dL_law_20 ?_
        refine lv_topi (fun y_316 ey_316 => ?_)
        obtain rfl : y_316 = 6 := ey_316.trans (by decide)
        refine lv_bipush (v := 6) hx hb dL_law_21 (by decide) ?_
        refine lv_isub hx hb dL_law_23 ?_
        refine lv_topi (fun y_317 ey_317 => ?_)
        obtain rfl : y_317 = 0 := ey_317.trans (by decide)
        refine lv_icmp_gt (tgt := 1377) hx hb dL_law_24 (by decide) (fun c_318 => ?_) (fun c_318 => ?_)
        · refine lv_iconst (v := 1) hx hb dL_law_1377 (by decide) ?_
          refine va_forget (fun q hq => hS.2.2 q hq) ?_
          refine W.widen (k := 600000) (n := 7302250) (Nat.le_of_ble_eq_true rfl) (Nat.le_of_ble_eq_true rfl) ?_
          exact lw_ret hx hb hr hlocks dL_law_1378
        · exact absurd c_318 (by decide)
      · exact absurd c_315 (by decide)
    · exfalso; omega
    · exfalso; omega
  · refine lv_aload_n hx hb dL_law_842 rfl (lv_at hl 1 rfl) ?_
    refine lv_aload_n hx hb dL_law_843 rfl (lv_at hl 3 rfl) ?_
    refine lv_iload_n hx hb dL_law_844 rfl (lv_at hl 0 rfl) ?_
    refine lv_iconst (v := 1) hx hb dL_law_845 (by decide) ?_
    refine lv_iadd hx hb dL_law_846 ?_
    refine lv_topi (fun y_319 ey_319 => ?_)
    obtain rfl : y_319 = 1 := ey_319.trans (by decide)
    refine va_sld hx hb hX hbl hbA hS (zf_in (by decide) (by decide)) dL_law_847 ?_
    refine lv_topi (fun y_320 ey_320 => ?_)
    obtain rfl : a_3 = y_320 := ea_3.trans ey_320.symm
    refine lv_aload_n hx hb dL_law_848 rfl (lv_at hl 3 rfl) ?_
    refine lv_iload_n hx hb dL_law_849 rfl (lv_at hl 0 rfl) ?_
    refine lv_iconst (v := 2) hx hb dL_law_850 (by decide) ?_
    refine lv_iadd hx hb dL_law_851 ?_
    refine lv_topi (fun y_321 ey_321 => ?_)
    obtain rfl : y_321 = 2 := ey_321.trans (by decide)
    refine va_sld hx hb hX hbl hbA hS (zf_in (by decide) (by decide)) dL_law_852 ?_
    refine lv_topi (fun y_322 ey_322 => ?_)
    obtain rfl : a_6 = y_322 := ea_6.trans ey_322.symm
    skip
    refine zw_V (As := [.int a_3, .int a_6]) (rest := [.int 0]) (wr := [(mki, .inl (cI, 8, .inl (fun _ => 0))), (mpa, .inl (cI, 8, .inl (fun _ => 0))), (mta, .inl (cI, 8, .inl (fun _ => 0))), (mla, .inl (cI, 40, .inl (fun _ => 0))), (msl, .inl (cI, 40, .inl (fun _ => 0))), (mco, .inl (cI, 3, .inl (zL3 5 10 50))), (mhe, .inl (cI, 8, .inl (fun _ => 0))), (mso, .inl (cI, 8, .inl (fun _ => 0))), (msi, .inl (cI, 8, .inl (fun _ => 0))), (msh, .inl (cI, 8, .inl (fun _ => 0))), (mce, .inl (cJ, 1280, .inr (.inl (fun _ => 0)))), (mca, .inl (cJ, 160, .inr (.inl (fun _ => 0)))), (mwo, .inl (cI, 64, .inl fw_)), (mnu, .inl (cI, 10, .inl fn_)), (mte, .inl (cI, 3, .inl (fun _ => 0))), (mwa, .inl (cI, 130, .inl (fun _ => 0))), (mke, .inl (cI, 130, .inl (fun _ => 0))), (mma, .inl (cI, 3, .inl (fun _ => 0))), (mth, .inl (cI, 3, .inl (fun _ => 0))), (mtr, .inl (cI, 20, .inl (fun _ => 0)))]) ⟨hx, hb, hml, hown, hts⟩ (c_M_line l D cI cJ cZ cP cS m0 mrf mki mpa mta mla msl mco mhe mso msi msh mce mca mwo mnu mte mwa mke mma mth mtr (a_3) (a_6)  H.size) (cwV 2 hts gq_94 rfl rfl rfl (by decide +kernel) ⟨Nat.le_of_ble_eq_true rfl, Nat.le_of_ble_eq_true rfl⟩) hK hN (hZ.kept hS) hP hD hS hA [0, 1] [2, 3, 4, 5, 6, 7, 8, 9, 10, 11, 12, 13, 14, 15, 16, 17, 18, 19, 20, 21] rfl rfl (by decide) (by decide) (by decide) (va_recv hK hP (ci := 8) (q0 := 0) rfl rfl) rfl hl.1 rfl (Nat.le_of_ble_eq_true rfl) dL_law_853 ⟨Nat.le_of_ble_eq_true rfl, Nat.le_of_ble_eq_true rfl⟩ (fun r_323 u_324 H locs hr_323 hP hD hS => ?_)
    replace hP : va_P D vwCl [(mki, .inl (cI, 8, .inl (fun _ => 0))), (mpa, .inl (cI, 8, .inl (fun _ => 0))), (mta, .inl (cI, 8, .inl (fun _ => 0))), (mla, .inl (cI, 40, .inl (fun _ => 0))), (msl, .inl (cI, 40, .inl (fun _ => 0))), (mco, .inl (cI, 3, .inl (zL3 5 10 50))), (mhe, .inl (cI, 8, .inl (fun _ => 0))), (mso, .inl (cI, 8, .inl (fun _ => 0))), (msi, .inl (cI, 8, .inl (fun _ => 0))), (msh, .inl (cI, 8, .inl (fun _ => 0))), (mce, .inl (cJ, 1280, .inr (.inl (fun _ => 0)))), (mca, .inl (cJ, 160, .inr (.inl (fun _ => 0)))), (mwo, .inl (cI, 64, .inl fw_)), (mnu, .inl (cI, 10, .inl fn_)), (mte, .inl (cI, 3, .inl (fun _ => 0))), (mwa, .inl (cI, 130, .inl (fun _ => 0))), (mke, .inl (cI, 130, .inl (fun _ => 0))), (mma, .inl (cI, 3, .inl (fun _ => 0))), (mth, .inl (cI, 3, .inl (fun _ => 0))), (mtr, .inl (cI, 20, .inl (fun _ => 0)))] H := hP
    replace hD : va_D _ [(mki, .inl (cI, 8, .inl (fun _ => 0))), (mpa, .inl (cI, 8, .inl (fun _ => 0))), (mta, .inl (cI, 8, .inl (fun _ => 0))), (mla, .inl (cI, 40, .inl (fun _ => 0))), (msl, .inl (cI, 40, .inl (fun _ => 0))), (mco, .inl (cI, 3, .inl (zL3 5 10 50))), (mhe, .inl (cI, 8, .inl (fun _ => 0))), (mso, .inl (cI, 8, .inl (fun _ => 0))), (msi, .inl (cI, 8, .inl (fun _ => 0))), (msh, .inl (cI, 8, .inl (fun _ => 0))), (mce, .inl (cJ, 1280, .inr (.inl (fun _ => 0)))), (mca, .inl (cJ, 160, .inr (.inl (fun _ => 0)))), (mwo, .inl (cI, 64, .inl fw_)), (mnu, .inl (cI, 10, .inl fn_)), (mte, .inl (cI, 3, .inl (fun _ => 0))), (mwa, .inl (cI, 130, .inl (fun _ => 0))), (mke, .inl (cI, 130, .inl (fun _ => 0))), (mma, .inl (cI, 3, .inl (fun _ => 0))), (mth, .inl (cI, 3, .inl (fun _ => 0))), (mtr, .inl (cI, 20, .inl (fun _ => 0)))] := hD
    rcases hr_323 with ⟨rfl, g_325⟩ | ⟨rfl, g_326, g_327, g_328⟩ | ⟨rfl, g_329, g_330, g_331, g_332⟩ | ⟨rfl, g_333, g_334, g_335, g_336, g_337⟩ | ⟨rfl, g_338, g_339, g_340, g_341, g_342⟩ | ⟨rfl, g_343, g_344⟩
    · exfalso; omega
    · exfalso; omega
    · exfalso; omega
    · exfalso; omega
    · refine lv_icmp_eq (tgt := 1371) hx hb dL_law_856 (by decide) (fun c_345 => ?_) (fun c_345 => ?_)
      · refine lv_iinc (v := 6) (lv' := [(3, .int 6), (2, .ref m0), (1, .ref x0), (0, .ref b)]) hx hb dL_law_1371 hl (k := 0) rfl (by decide) (by decide) rfl (fun ls hl => ?_)
        refine lv_goto (tgt := 18) hx hb dL_law_1374 (by decide) ?_
        refine lv_iload_n hx hb dL_law_18 rfl (lv_at hl 0 rfl) ?_
        refine lv_aload_n hx hb dL_law_19 rfl (lv_at hl 3 rfl) ?_
        refine va_slen hx hb hX hbl hbA hS dL_law_20 ?_
        refine lv_topi (fun y_346 ey_346 => ?_)
        obtain rfl : y_346 = 6 := ey_346.trans (by decide)
        refine lv_bipush (v := 6) hx hb dL_law_21 (by decide) ?_
        refine lv_isub hx hb dL_law_23 ?_
        refine lv_topi (fun y_347 ey_347 => ?_)
        obtain rfl : y_347 = 0 := ey_347.trans (by decide)
        refine lv_icmp_gt (tgt := 1377) hx hb dL_law_24 (by decide) (fun c_348 => ?_) (fun c_348 => ?_)
        · refine lv_iconst (v := 1) hx hb dL_law_1377 (by decide) ?_
          refine va_forget (fun q hq => hS.2.2 q hq) ?_
          refine W.widen (k := 600000) (n := 7302250) (Nat.le_of_ble_eq_true rfl) (Nat.le_of_ble_eq_true rfl) ?_
          exact lw_ret hx hb hr hlocks dL_law_1378
        · exact absurd c_348 (by decide)
      · exact absurd c_345 (by decide)
    · exfalso; omega
  · refine lv_aload_n hx hb dL_law_842 rfl (lv_at hl 1 rfl) ?_
    refine lv_aload_n hx hb dL_law_843 rfl (lv_at hl 3 rfl) ?_
    refine lv_iload_n hx hb dL_law_844 rfl (lv_at hl 0 rfl) ?_
    refine lv_iconst (v := 1) hx hb dL_law_845 (by decide) ?_
    refine lv_iadd hx hb dL_law_846 ?_
    refine lv_topi (fun y_349 ey_349 => ?_)
    obtain rfl : y_349 = 1 := ey_349.trans (by decide)
    refine va_sld hx hb hX hbl hbA hS (zf_in (by decide) (by decide)) dL_law_847 ?_
    refine lv_topi (fun y_350 ey_350 => ?_)
    obtain rfl : a_3 = y_350 := ea_3.trans ey_350.symm
    refine lv_aload_n hx hb dL_law_848 rfl (lv_at hl 3 rfl) ?_
    refine lv_iload_n hx hb dL_law_849 rfl (lv_at hl 0 rfl) ?_
    refine lv_iconst (v := 2) hx hb dL_law_850 (by decide) ?_
    refine lv_iadd hx hb dL_law_851 ?_
    refine lv_topi (fun y_351 ey_351 => ?_)
    obtain rfl : y_351 = 2 := ey_351.trans (by decide)
    refine va_sld hx hb hX hbl hbA hS (zf_in (by decide) (by decide)) dL_law_852 ?_
    refine lv_topi (fun y_352 ey_352 => ?_)
    obtain rfl : a_6 = y_352 := ea_6.trans ey_352.symm
    skip
    refine zw_V (As := [.int a_3, .int a_6]) (rest := [.int (-1)]) (wr := [(mki, .inl (cI, 8, .inl (fun _ => 0))), (mpa, .inl (cI, 8, .inl (fun _ => 0))), (mta, .inl (cI, 8, .inl (fun _ => 0))), (mla, .inl (cI, 40, .inl (fun _ => 0))), (msl, .inl (cI, 40, .inl (fun _ => 0))), (mco, .inl (cI, 3, .inl (zL3 5 10 50))), (mhe, .inl (cI, 8, .inl (fun _ => 0))), (mso, .inl (cI, 8, .inl (fun _ => 0))), (msi, .inl (cI, 8, .inl (fun _ => 0))), (msh, .inl (cI, 8, .inl (fun _ => 0))), (mce, .inl (cJ, 1280, .inr (.inl (fun _ => 0)))), (mca, .inl (cJ, 160, .inr (.inl (fun _ => 0)))), (mwo, .inl (cI, 64, .inl fw_)), (mnu, .inl (cI, 10, .inl fn_)), (mte, .inl (cI, 3, .inl (fun _ => 0))), (mwa, .inl (cI, 130, .inl (fun _ => 0))), (mke, .inl (cI, 130, .inl (fun _ => 0))), (mma, .inl (cI, 3, .inl (fun _ => 0))), (mth, .inl (cI, 3, .inl (fun _ => 0))), (mtr, .inl (cI, 20, .inl (fun _ => 0)))]) ⟨hx, hb, hml, hown, hts⟩ (c_M_line l D cI cJ cZ cP cS m0 mrf mki mpa mta mla msl mco mhe mso msi msh mce mca mwo mnu mte mwa mke mma mth mtr (a_3) (a_6)  H.size) (cwV 2 hts gq_94 rfl rfl rfl (by decide +kernel) ⟨Nat.le_of_ble_eq_true rfl, Nat.le_of_ble_eq_true rfl⟩) hK hN (hZ.kept hS) hP hD hS hA [0, 1] [2, 3, 4, 5, 6, 7, 8, 9, 10, 11, 12, 13, 14, 15, 16, 17, 18, 19, 20, 21] rfl rfl (by decide) (by decide) (by decide) (va_recv hK hP (ci := 8) (q0 := 0) rfl rfl) rfl hl.1 rfl (Nat.le_of_ble_eq_true rfl) dL_law_853 ⟨Nat.le_of_ble_eq_true rfl, Nat.le_of_ble_eq_true rfl⟩ (fun r_353 u_354 H locs hr_353 hP hD hS => ?_)
    replace hP : va_P D vwCl [(mki, .inl (cI, 8, .inl (fun _ => 0))), (mpa, .inl (cI, 8, .inl (fun _ => 0))), (mta, .inl (cI, 8, .inl (fun _ => 0))), (mla, .inl (cI, 40, .inl (fun _ => 0))), (msl, .inl (cI, 40, .inl (fun _ => 0))), (mco, .inl (cI, 3, .inl (zL3 5 10 50))), (mhe, .inl (cI, 8, .inl (fun _ => 0))), (mso, .inl (cI, 8, .inl (fun _ => 0))), (msi, .inl (cI, 8, .inl (fun _ => 0))), (msh, .inl (cI, 8, .inl (fun _ => 0))), (mce, .inl (cJ, 1280, .inr (.inl (fun _ => 0)))), (mca, .inl (cJ, 160, .inr (.inl (fun _ => 0)))), (mwo, .inl (cI, 64, .inl fw_)), (mnu, .inl (cI, 10, .inl fn_)), (mte, .inl (cI, 3, .inl (fun _ => 0))), (mwa, .inl (cI, 130, .inl (fun _ => 0))), (mke, .inl (cI, 130, .inl (fun _ => 0))), (mma, .inl (cI, 3, .inl (fun _ => 0))), (mth, .inl (cI, 3, .inl (fun _ => 0))), (mtr, .inl (cI, 20, .inl (fun _ => 0)))] H := hP
    replace hD : va_D _ [(mki, .inl (cI, 8, .inl (fun _ => 0))), (mpa, .inl (cI, 8, .inl (fun _ => 0))), (mta, .inl (cI, 8, .inl (fun _ => 0))), (mla, .inl (cI, 40, .inl (fun _ => 0))), (msl, .inl (cI, 40, .inl (fun _ => 0))), (mco, .inl (cI, 3, .inl (zL3 5 10 50))), (mhe, .inl (cI, 8, .inl (fun _ => 0))), (mso, .inl (cI, 8, .inl (fun _ => 0))), (msi, .inl (cI, 8, .inl (fun _ => 0))), (msh, .inl (cI, 8, .inl (fun _ => 0))), (mce, .inl (cJ, 1280, .inr (.inl (fun _ => 0)))), (mca, .inl (cJ, 160, .inr (.inl (fun _ => 0)))), (mwo, .inl (cI, 64, .inl fw_)), (mnu, .inl (cI, 10, .inl fn_)), (mte, .inl (cI, 3, .inl (fun _ => 0))), (mwa, .inl (cI, 130, .inl (fun _ => 0))), (mke, .inl (cI, 130, .inl (fun _ => 0))), (mma, .inl (cI, 3, .inl (fun _ => 0))), (mth, .inl (cI, 3, .inl (fun _ => 0))), (mtr, .inl (cI, 20, .inl (fun _ => 0)))] := hD
    rcases hr_353 with ⟨rfl, g_355⟩ | ⟨rfl, g_356, g_357, g_358⟩ | ⟨rfl, g_359, g_360, g_361, g_362⟩ | ⟨rfl, g_363, g_364, g_365, g_366, g_367⟩ | ⟨rfl, g_368, g_369, g_370, g_371, g_372⟩ | ⟨rfl, g_373, g_374⟩
    · exfalso; omega
    · exfalso; omega
    · exfalso; omega
    · refine lv_icmp_eq (tgt := 1371) hx hb dL_law_856 (by decide) (fun c_375 => ?_) (fun c_375 => ?_)
      · refine lv_iinc (v := 6) (lv' := [(3, .int 6), (2, .ref m0), (1, .ref x0), (0, .ref b)]) hx hb dL_law_1371 hl (k := 0) rfl (by decide) (by decide) rfl (fun ls hl => ?_)
        refine lv_goto (tgt := 18) hx hb dL_law_1374 (by decide) ?_
        refine lv_iload_n hx hb dL_law_18 rfl (lv_at hl 0 rfl) ?_
        refine lv_aload_n hx hb dL_law_19 rfl (lv_at hl 3 rfl) ?_
        refine va_slen hx hb hX hbl hbA hS dL_law_20 ?_
        refine lv_topi (fun y_376 ey_376 => ?_)
        obtain rfl : y_376 = 6 := ey_376.trans (by decide)
        refine lv_bipush (v := 6) hx hb dL_law_21 (by decide) ?_
        refine lv_isub hx hb dL_law_23 ?_
        refine lv_topi (fun y_377 ey_377 => ?_)
        obtain rfl : y_377 = 0 := ey_377.trans (by decide)
        refine lv_icmp_gt (tgt := 1377) hx hb dL_law_24 (by decide) (fun c_378 => ?_) (fun c_378 => ?_)
        · refine lv_iconst (v := 1) hx hb dL_law_1377 (by decide) ?_
          refine va_forget (fun q hq => hS.2.2 q hq) ?_
          refine W.widen (k := 600000) (n := 7302250) (Nat.le_of_ble_eq_true rfl) (Nat.le_of_ble_eq_true rfl) ?_
          exact lw_ret hx hb hr hlocks dL_law_1378
        · exact absurd c_378 (by decide)
      · exact absurd c_375 (by decide)
    · exfalso; omega
    · exfalso; omega
  · refine lv_aload_n hx hb dL_law_842 rfl (lv_at hl 1 rfl) ?_
    refine lv_aload_n hx hb dL_law_843 rfl (lv_at hl 3 rfl) ?_
    refine lv_iload_n hx hb dL_law_844 rfl (lv_at hl 0 rfl) ?_
    refine lv_iconst (v := 1) hx hb dL_law_845 (by decide) ?_
    refine lv_iadd hx hb dL_law_846 ?_
    refine lv_topi (fun y_379 ey_379 => ?_)
    obtain rfl : y_379 = 1 := ey_379.trans (by decide)
    refine va_sld hx hb hX hbl hbA hS (zf_in (by decide) (by decide)) dL_law_847 ?_
    refine lv_topi (fun y_380 ey_380 => ?_)
    obtain rfl : a_3 = y_380 := ea_3.trans ey_380.symm
    refine lv_aload_n hx hb dL_law_848 rfl (lv_at hl 3 rfl) ?_
    refine lv_iload_n hx hb dL_law_849 rfl (lv_at hl 0 rfl) ?_
    refine lv_iconst (v := 2) hx hb dL_law_850 (by decide) ?_
    refine lv_iadd hx hb dL_law_851 ?_
    refine lv_topi (fun y_381 ey_381 => ?_)
    obtain rfl : y_381 = 2 := ey_381.trans (by decide)
    refine va_sld hx hb hX hbl hbA hS (zf_in (by decide) (by decide)) dL_law_852 ?_
    refine lv_topi (fun y_382 ey_382 => ?_)
    obtain rfl : a_6 = y_382 := ea_6.trans ey_382.symm
    skip
    refine zw_V (As := [.int a_3, .int a_6]) (rest := [.int 0]) (wr := [(mki, .inl (cI, 8, .inl (fun _ => 0))), (mpa, .inl (cI, 8, .inl (fun _ => 0))), (mta, .inl (cI, 8, .inl (fun _ => 0))), (mla, .inl (cI, 40, .inl (fun _ => 0))), (msl, .inl (cI, 40, .inl (fun _ => 0))), (mco, .inl (cI, 3, .inl (zL3 5 10 50))), (mhe, .inl (cI, 8, .inl (fun _ => 0))), (mso, .inl (cI, 8, .inl (fun _ => 0))), (msi, .inl (cI, 8, .inl (fun _ => 0))), (msh, .inl (cI, 8, .inl (fun _ => 0))), (mce, .inl (cJ, 1280, .inr (.inl (fun _ => 0)))), (mca, .inl (cJ, 160, .inr (.inl (fun _ => 0)))), (mwo, .inl (cI, 64, .inl fw_)), (mnu, .inl (cI, 10, .inl fn_)), (mte, .inl (cI, 3, .inl (fun _ => 0))), (mwa, .inl (cI, 130, .inl (fun _ => 0))), (mke, .inl (cI, 130, .inl (fun _ => 0))), (mma, .inl (cI, 3, .inl (fun _ => 0))), (mth, .inl (cI, 3, .inl (fun _ => 0))), (mtr, .inl (cI, 20, .inl (fun _ => 0)))]) ⟨hx, hb, hml, hown, hts⟩ (c_M_line l D cI cJ cZ cP cS m0 mrf mki mpa mta mla msl mco mhe mso msi msh mce mca mwo mnu mte mwa mke mma mth mtr (a_3) (a_6)  H.size) (cwV 2 hts gq_94 rfl rfl rfl (by decide +kernel) ⟨Nat.le_of_ble_eq_true rfl, Nat.le_of_ble_eq_true rfl⟩) hK hN (hZ.kept hS) hP hD hS hA [0, 1] [2, 3, 4, 5, 6, 7, 8, 9, 10, 11, 12, 13, 14, 15, 16, 17, 18, 19, 20, 21] rfl rfl (by decide) (by decide) (by decide) (va_recv hK hP (ci := 8) (q0 := 0) rfl rfl) rfl hl.1 rfl (Nat.le_of_ble_eq_true rfl) dL_law_853 ⟨Nat.le_of_ble_eq_true rfl, Nat.le_of_ble_eq_true rfl⟩ (fun r_383 u_384 H locs hr_383 hP hD hS => ?_)
    replace hP : va_P D vwCl [(mki, .inl (cI, 8, .inl (fun _ => 0))), (mpa, .inl (cI, 8, .inl (fun _ => 0))), (mta, .inl (cI, 8, .inl (fun _ => 0))), (mla, .inl (cI, 40, .inl (fun _ => 0))), (msl, .inl (cI, 40, .inl (fun _ => 0))), (mco, .inl (cI, 3, .inl (zL3 5 10 50))), (mhe, .inl (cI, 8, .inl (fun _ => 0))), (mso, .inl (cI, 8, .inl (fun _ => 0))), (msi, .inl (cI, 8, .inl (fun _ => 0))), (msh, .inl (cI, 8, .inl (fun _ => 0))), (mce, .inl (cJ, 1280, .inr (.inl (fun _ => 0)))), (mca, .inl (cJ, 160, .inr (.inl (fun _ => 0)))), (mwo, .inl (cI, 64, .inl fw_)), (mnu, .inl (cI, 10, .inl fn_)), (mte, .inl (cI, 3, .inl (fun _ => 0))), (mwa, .inl (cI, 130, .inl (fun _ => 0))), (mke, .inl (cI, 130, .inl (fun _ => 0))), (mma, .inl (cI, 3, .inl (fun _ => 0))), (mth, .inl (cI, 3, .inl (fun _ => 0))), (mtr, .inl (cI, 20, .inl (fun _ => 0)))] H := hP
    replace hD : va_D _ [(mki, .inl (cI, 8, .inl (fun _ => 0))), (mpa, .inl (cI, 8, .inl (fun _ => 0))), (mta, .inl (cI, 8, .inl (fun _ => 0))), (mla, .inl (cI, 40, .inl (fun _ => 0))), (msl, .inl (cI, 40, .inl (fun _ => 0))), (mco, .inl (cI, 3, .inl (zL3 5 10 50))), (mhe, .inl (cI, 8, .inl (fun _ => 0))), (mso, .inl (cI, 8, .inl (fun _ => 0))), (msi, .inl (cI, 8, .inl (fun _ => 0))), (msh, .inl (cI, 8, .inl (fun _ => 0))), (mce, .inl (cJ, 1280, .inr (.inl (fun _ => 0)))), (mca, .inl (cJ, 160, .inr (.inl (fun _ => 0)))), (mwo, .inl (cI, 64, .inl fw_)), (mnu, .inl (cI, 10, .inl fn_)), (mte, .inl (cI, 3, .inl (fun _ => 0))), (mwa, .inl (cI, 130, .inl (fun _ => 0))), (mke, .inl (cI, 130, .inl (fun _ => 0))), (mma, .inl (cI, 3, .inl (fun _ => 0))), (mth, .inl (cI, 3, .inl (fun _ => 0))), (mtr, .inl (cI, 20, .inl (fun _ => 0)))] := hD
    rcases hr_383 with ⟨rfl, g_385⟩ | ⟨rfl, g_386, g_387, g_388⟩ | ⟨rfl, g_389, g_390, g_391, g_392⟩ | ⟨rfl, g_393, g_394, g_395, g_396, g_397⟩ | ⟨rfl, g_398, g_399, g_400, g_401, g_402⟩ | ⟨rfl, g_403, g_404⟩
    · exfalso; omega
    · exfalso; omega
    · exfalso; omega
    · exfalso; omega
    · refine lv_icmp_eq (tgt := 1371) hx hb dL_law_856 (by decide) (fun c_405 => ?_) (fun c_405 => ?_)
      · refine lv_iinc (v := 6) (lv' := [(3, .int 6), (2, .ref m0), (1, .ref x0), (0, .ref b)]) hx hb dL_law_1371 hl (k := 0) rfl (by decide) (by decide) rfl (fun ls hl => ?_)
        refine lv_goto (tgt := 18) hx hb dL_law_1374 (by decide) ?_
        refine lv_iload_n hx hb dL_law_18 rfl (lv_at hl 0 rfl) ?_
        refine lv_aload_n hx hb dL_law_19 rfl (lv_at hl 3 rfl) ?_
        refine va_slen hx hb hX hbl hbA hS dL_law_20 ?_
        refine lv_topi (fun y_406 ey_406 => ?_)
        obtain rfl : y_406 = 6 := ey_406.trans (by decide)
        refine lv_bipush (v := 6) hx hb dL_law_21 (by decide) ?_
        refine lv_isub hx hb dL_law_23 ?_
        refine lv_topi (fun y_407 ey_407 => ?_)
        obtain rfl : y_407 = 0 := ey_407.trans (by decide)
        refine lv_icmp_gt (tgt := 1377) hx hb dL_law_24 (by decide) (fun c_408 => ?_) (fun c_408 => ?_)
        · refine lv_iconst (v := 1) hx hb dL_law_1377 (by decide) ?_
          refine va_forget (fun q hq => hS.2.2 q hq) ?_
          refine W.widen (k := 600000) (n := 7302250) (Nat.le_of_ble_eq_true rfl) (Nat.le_of_ble_eq_true rfl) ?_
          exact lw_ret hx hb hr hlocks dL_law_1378
        · exact absurd c_408 (by decide)
      · exact absurd c_405 (by decide)
    · exfalso; omega
  · refine lv_aload_n hx hb dL_law_842 rfl (lv_at hl 1 rfl) ?_
    refine lv_aload_n hx hb dL_law_843 rfl (lv_at hl 3 rfl) ?_
    refine lv_iload_n hx hb dL_law_844 rfl (lv_at hl 0 rfl) ?_
    refine lv_iconst (v := 1) hx hb dL_law_845 (by decide) ?_
    refine lv_iadd hx hb dL_law_846 ?_
    refine lv_topi (fun y_409 ey_409 => ?_)
    obtain rfl : y_409 = 1 := ey_409.trans (by decide)
    refine va_sld hx hb hX hbl hbA hS (zf_in (by decide) (by decide)) dL_law_847 ?_
    refine lv_topi (fun y_410 ey_410 => ?_)
    obtain rfl : a_3 = y_410 := ea_3.trans ey_410.symm
    refine lv_aload_n hx hb dL_law_848 rfl (lv_at hl 3 rfl) ?_
    refine lv_iload_n hx hb dL_law_849 rfl (lv_at hl 0 rfl) ?_
    refine lv_iconst (v := 2) hx hb dL_law_850 (by decide) ?_
    refine lv_iadd hx hb dL_law_851 ?_
    refine lv_topi (fun y_411 ey_411 => ?_)
    obtain rfl : y_411 = 2 := ey_411.trans (by decide)
    refine va_sld hx hb hX hbl hbA hS (zf_in (by decide) (by decide)) dL_law_852 ?_
    refine lv_topi (fun y_412 ey_412 => ?_)
    obtain rfl : a_6 = y_412 := ea_6.trans ey_412.symm
    skip
    refine zw_V (As := [.int a_3, .int a_6]) (rest := [.int (-1)]) (wr := [(mki, .inl (cI, 8, .inl (fun _ => 0))), (mpa, .inl (cI, 8, .inl (fun _ => 0))), (mta, .inl (cI, 8, .inl (fun _ => 0))), (mla, .inl (cI, 40, .inl (fun _ => 0))), (msl, .inl (cI, 40, .inl (fun _ => 0))), (mco, .inl (cI, 3, .inl (zL3 5 10 50))), (mhe, .inl (cI, 8, .inl (fun _ => 0))), (mso, .inl (cI, 8, .inl (fun _ => 0))), (msi, .inl (cI, 8, .inl (fun _ => 0))), (msh, .inl (cI, 8, .inl (fun _ => 0))), (mce, .inl (cJ, 1280, .inr (.inl (fun _ => 0)))), (mca, .inl (cJ, 160, .inr (.inl (fun _ => 0)))), (mwo, .inl (cI, 64, .inl fw_)), (mnu, .inl (cI, 10, .inl fn_)), (mte, .inl (cI, 3, .inl (fun _ => 0))), (mwa, .inl (cI, 130, .inl (fun _ => 0))), (mke, .inl (cI, 130, .inl (fun _ => 0))), (mma, .inl (cI, 3, .inl (fun _ => 0))), (mth, .inl (cI, 3, .inl (fun _ => 0))), (mtr, .inl (cI, 20, .inl (fun _ => 0)))]) ⟨hx, hb, hml, hown, hts⟩ (c_M_line l D cI cJ cZ cP cS m0 mrf mki mpa mta mla msl mco mhe mso msi msh mce mca mwo mnu mte mwa mke mma mth mtr (a_3) (a_6)  H.size) (cwV 2 hts gq_94 rfl rfl rfl (by decide +kernel) ⟨Nat.le_of_ble_eq_true rfl, Nat.le_of_ble_eq_true rfl⟩) hK hN (hZ.kept hS) hP hD hS hA [0, 1] [2, 3, 4, 5, 6, 7, 8, 9, 10, 11, 12, 13, 14, 15, 16, 17, 18, 19, 20, 21] rfl rfl (by decide) (by decide) (by decide) (va_recv hK hP (ci := 8) (q0 := 0) rfl rfl) rfl hl.1 rfl (Nat.le_of_ble_eq_true rfl) dL_law_853 ⟨Nat.le_of_ble_eq_true rfl, Nat.le_of_ble_eq_true rfl⟩ (fun r_413 u_414 H locs hr_413 hP hD hS => ?_)
    replace hP : va_P D vwCl [(mki, .inl (cI, 8, .inl (fun _ => 0))), (mpa, .inl (cI, 8, .inl (fun _ => 0))), (mta, .inl (cI, 8, .inl (fun _ => 0))), (mla, .inl (cI, 40, .inl (fun _ => 0))), (msl, .inl (cI, 40, .inl (fun _ => 0))), (mco, .inl (cI, 3, .inl (zL3 5 10 50))), (mhe, .inl (cI, 8, .inl (fun _ => 0))), (mso, .inl (cI, 8, .inl (fun _ => 0))), (msi, .inl (cI, 8, .inl (fun _ => 0))), (msh, .inl (cI, 8, .inl (fun _ => 0))), (mce, .inl (cJ, 1280, .inr (.inl (fun _ => 0)))), (mca, .inl (cJ, 160, .inr (.inl (fun _ => 0)))), (mwo, .inl (cI, 64, .inl fw_)), (mnu, .inl (cI, 10, .inl fn_)), (mte, .inl (cI, 3, .inl (fun _ => 0))), (mwa, .inl (cI, 130, .inl (fun _ => 0))), (mke, .inl (cI, 130, .inl (fun _ => 0))), (mma, .inl (cI, 3, .inl (fun _ => 0))), (mth, .inl (cI, 3, .inl (fun _ => 0))), (mtr, .inl (cI, 20, .inl (fun _ => 0)))] H := hP
    replace hD : va_D _ [(mki, .inl (cI, 8, .inl (fun _ => 0))), (mpa, .inl (cI, 8, .inl (fun _ => 0))), (mta, .inl (cI, 8, .inl (fun _ => 0))), (mla, .inl (cI, 40, .inl (fun _ => 0))), (msl, .inl (cI, 40, .inl (fun _ => 0))), (mco, .inl (cI, 3, .inl (zL3 5 10 50))), (mhe, .inl (cI, 8, .inl (fun _ => 0))), (mso, .inl (cI, 8, .inl (fun _ => 0))), (msi, .inl (cI, 8, .inl (fun _ => 0))), (msh, .inl (cI, 8, .inl (fun _ => 0))), (mce, .inl (cJ, 1280, .inr (.inl (fun _ => 0)))), (mca, .inl (cJ, 160, .inr (.inl (fun _ => 0)))), (mwo, .inl (cI, 64, .inl fw_)), (mnu, .inl (cI, 10, .inl fn_)), (mte, .inl (cI, 3, .inl (fun _ => 0))), (mwa, .inl (cI, 130, .inl (fun _ => 0))), (mke, .inl (cI, 130, .inl (fun _ => 0))), (mma, .inl (cI, 3, .inl (fun _ => 0))), (mth, .inl (cI, 3, .inl (fun _ => 0))), (mtr, .inl (cI, 20, .inl (fun _ => 0)))] := hD
    rcases hr_413 with ⟨rfl, g_415⟩ | ⟨rfl, g_416, g_417, g_418⟩ | ⟨rfl, g_419, g_420, g_421, g_422⟩ | ⟨rfl, g_423, g_424, g_425, g_426, g_427⟩ | ⟨rfl, g_428, g_429, g_430, g_431, g_432⟩ | ⟨rfl, g_433, g_434⟩
    · exfalso; omega
    · exfalso; omega
    · exfalso; omega
    · refine lv_icmp_eq (tgt := 1371) hx hb dL_law_856 (by decide) (fun c_435 => ?_) (fun c_435 => ?_)
      · refine lv_iinc (v := 6) (lv' := [(3, .int 6), (2, .ref m0), (1, .ref x0), (0, .ref b)]) hx hb dL_law_1371 hl (k := 0) rfl (by decide) (by decide) rfl (fun ls hl => ?_)
        refine lv_goto (tgt := 18) hx hb dL_law_1374 (by decide) ?_
        refine lv_iload_n hx hb dL_law_18 rfl (lv_at hl 0 rfl) ?_
        refine lv_aload_n hx hb dL_law_19 rfl (lv_at hl 3 rfl) ?_
        refine va_slen hx hb hX hbl hbA hS dL_law_20 ?_
        refine lv_topi (fun y_436 ey_436 => ?_)
        obtain rfl : y_436 = 6 := ey_436.trans (by decide)
        refine lv_bipush (v := 6) hx hb dL_law_21 (by decide) ?_
        refine lv_isub hx hb dL_law_23 ?_
        refine lv_topi (fun y_437 ey_437 => ?_)
        obtain rfl : y_437 = 0 := ey_437.trans (by decide)
        refine lv_icmp_gt (tgt := 1377) hx hb dL_law_24 (by decide) (fun c_438 => ?_) (fun c_438 => ?_)
        · refine lv_iconst (v := 1) hx hb dL_law_1377 (by decide) ?_
          refine va_forget (fun q hq => hS.2.2 q hq) ?_
          refine W.widen (k := 600000) (n := 7302250) (Nat.le_of_ble_eq_true rfl) (Nat.le_of_ble_eq_true rfl) ?_
          exact lw_ret hx hb hr hlocks dL_law_1378
        · exact absurd c_438 (by decide)
      · exact absurd c_435 (by decide)
    · exfalso; omega
    · exfalso; omega
  · refine lv_aload_n hx hb dL_law_842 rfl (lv_at hl 1 rfl) ?_
    refine lv_aload_n hx hb dL_law_843 rfl (lv_at hl 3 rfl) ?_
    refine lv_iload_n hx hb dL_law_844 rfl (lv_at hl 0 rfl) ?_
    refine lv_iconst (v := 1) hx hb dL_law_845 (by decide) ?_
    refine lv_iadd hx hb dL_law_846 ?_
    refine lv_topi (fun y_439 ey_439 => ?_)
    obtain rfl : y_439 = 1 := ey_439.trans (by decide)
    refine va_sld hx hb hX hbl hbA hS (zf_in (by decide) (by decide)) dL_law_847 ?_
    refine lv_topi (fun y_440 ey_440 => ?_)
    obtain rfl : a_3 = y_440 := ea_3.trans ey_440.symm
    refine lv_aload_n hx hb dL_law_848 rfl (lv_at hl 3 rfl) ?_
    refine lv_iload_n hx hb dL_law_849 rfl (lv_at hl 0 rfl) ?_
    refine lv_iconst (v := 2) hx hb dL_law_850 (by decide) ?_
    refine lv_iadd hx hb dL_law_851 ?_
    refine lv_topi (fun y_441 ey_441 => ?_)
    obtain rfl : y_441 = 2 := ey_441.trans (by decide)
    refine va_sld hx hb hX hbl hbA hS (zf_in (by decide) (by decide)) dL_law_852 ?_
    refine lv_topi (fun y_442 ey_442 => ?_)
    obtain rfl : a_6 = y_442 := ea_6.trans ey_442.symm
    skip
    refine zw_V (As := [.int a_3, .int a_6]) (rest := [.int 0]) (wr := [(mki, .inl (cI, 8, .inl (fun _ => 0))), (mpa, .inl (cI, 8, .inl (fun _ => 0))), (mta, .inl (cI, 8, .inl (fun _ => 0))), (mla, .inl (cI, 40, .inl (fun _ => 0))), (msl, .inl (cI, 40, .inl (fun _ => 0))), (mco, .inl (cI, 3, .inl (zL3 5 10 50))), (mhe, .inl (cI, 8, .inl (fun _ => 0))), (mso, .inl (cI, 8, .inl (fun _ => 0))), (msi, .inl (cI, 8, .inl (fun _ => 0))), (msh, .inl (cI, 8, .inl (fun _ => 0))), (mce, .inl (cJ, 1280, .inr (.inl (fun _ => 0)))), (mca, .inl (cJ, 160, .inr (.inl (fun _ => 0)))), (mwo, .inl (cI, 64, .inl fw_)), (mnu, .inl (cI, 10, .inl fn_)), (mte, .inl (cI, 3, .inl (fun _ => 0))), (mwa, .inl (cI, 130, .inl (fun _ => 0))), (mke, .inl (cI, 130, .inl (fun _ => 0))), (mma, .inl (cI, 3, .inl (fun _ => 0))), (mth, .inl (cI, 3, .inl (fun _ => 0))), (mtr, .inl (cI, 20, .inl (fun _ => 0)))]) ⟨hx, hb, hml, hown, hts⟩ (c_M_line l D cI cJ cZ cP cS m0 mrf mki mpa mta mla msl mco mhe mso msi msh mce mca mwo mnu mte mwa mke mma mth mtr (a_3) (a_6)  H.size) (cwV 2 hts gq_94 rfl rfl rfl (by decide +kernel) ⟨Nat.le_of_ble_eq_true rfl, Nat.le_of_ble_eq_true rfl⟩) hK hN (hZ.kept hS) hP hD hS hA [0, 1] [2, 3, 4, 5, 6, 7, 8, 9, 10, 11, 12, 13, 14, 15, 16, 17, 18, 19, 20, 21] rfl rfl (by decide) (by decide) (by decide) (va_recv hK hP (ci := 8) (q0 := 0) rfl rfl) rfl hl.1 rfl (Nat.le_of_ble_eq_true rfl) dL_law_853 ⟨Nat.le_of_ble_eq_true rfl, Nat.le_of_ble_eq_true rfl⟩ (fun r_443 u_444 H locs hr_443 hP hD hS => ?_)
    replace hP : va_P D vwCl [(mki, .inl (cI, 8, .inl (fun _ => 0))), (mpa, .inl (cI, 8, .inl (fun _ => 0))), (mta, .inl (cI, 8, .inl (fun _ => 0))), (mla, .inl (cI, 40, .inl (fun _ => 0))), (msl, .inl (cI, 40, .inl (fun _ => 0))), (mco, .inl (cI, 3, .inl (zL3 5 10 50))), (mhe, .inl (cI, 8, .inl (fun _ => 0))), (mso, .inl (cI, 8, .inl (fun _ => 0))), (msi, .inl (cI, 8, .inl (fun _ => 0))), (msh, .inl (cI, 8, .inl (fun _ => 0))), (mce, .inl (cJ, 1280, .inr (.inl (fun _ => 0)))), (mca, .inl (cJ, 160, .inr (.inl (fun _ => 0)))), (mwo, .inl (cI, 64, .inl fw_)), (mnu, .inl (cI, 10, .inl fn_)), (mte, .inl (cI, 3, .inl (fun _ => 0))), (mwa, .inl (cI, 130, .inl (fun _ => 0))), (mke, .inl (cI, 130, .inl (fun _ => 0))), (mma, .inl (cI, 3, .inl (fun _ => 0))), (mth, .inl (cI, 3, .inl (fun _ => 0))), (mtr, .inl (cI, 20, .inl (fun _ => 0)))] H := hP
    replace hD : va_D _ [(mki, .inl (cI, 8, .inl (fun _ => 0))), (mpa, .inl (cI, 8, .inl (fun _ => 0))), (mta, .inl (cI, 8, .inl (fun _ => 0))), (mla, .inl (cI, 40, .inl (fun _ => 0))), (msl, .inl (cI, 40, .inl (fun _ => 0))), (mco, .inl (cI, 3, .inl (zL3 5 10 50))), (mhe, .inl (cI, 8, .inl (fun _ => 0))), (mso, .inl (cI, 8, .inl (fun _ => 0))), (msi, .inl (cI, 8, .inl (fun _ => 0))), (msh, .inl (cI, 8, .inl (fun _ => 0))), (mce, .inl (cJ, 1280, .inr (.inl (fun _ => 0)))), (mca, .inl (cJ, 160, .inr (.inl (fun _ => 0)))), (mwo, .inl (cI, 64, .inl fw_)), (mnu, .inl (cI, 10, .inl fn_)), (mte, .inl (cI, 3, .inl (fun _ => 0))), (mwa, .inl (cI, 130, .inl (fun _ => 0))), (mke, .inl (cI, 130, .inl (fun _ => 0))), (mma, .inl (cI, 3, .inl (fun _ => 0))), (mth, .inl (cI, 3, .inl (fun _ => 0))), (mtr, .inl (cI, 20, .inl (fun _ => 0)))] := hD
    rcases hr_443 with ⟨rfl, g_445⟩ | ⟨rfl, g_446, g_447, g_448⟩ | ⟨rfl, g_449, g_450, g_451, g_452⟩ | ⟨rfl, g_453, g_454, g_455, g_456, g_457⟩ | ⟨rfl, g_458, g_459, g_460, g_461, g_462⟩ | ⟨rfl, g_463, g_464⟩
    · exfalso; omega
    · exfalso; omega
    · exfalso; omega
    · exfalso; omega
    · refine lv_icmp_eq (tgt := 1371) hx hb dL_law_856 (by decide) (fun c_465 => ?_) (fun c_465 => ?_)
      · refine lv_iinc (v := 6) (lv' := [(3, .int 6), (2, .ref m0), (1, .ref x0), (0, .ref b)]) hx hb dL_law_1371 hl (k := 0) rfl (by decide) (by decide) rfl (fun ls hl => ?_)
        refine lv_goto (tgt := 18) hx hb dL_law_1374 (by decide) ?_
        refine lv_iload_n hx hb dL_law_18 rfl (lv_at hl 0 rfl) ?_
        refine lv_aload_n hx hb dL_law_19 rfl (lv_at hl 3 rfl) ?_
        refine va_slen hx hb hX hbl hbA hS dL_law_20 ?_
        refine lv_topi (fun y_466 ey_466 => ?_)
        obtain rfl : y_466 = 6 := ey_466.trans (by decide)
        refine lv_bipush (v := 6) hx hb dL_law_21 (by decide) ?_
        refine lv_isub hx hb dL_law_23 ?_
        refine lv_topi (fun y_467 ey_467 => ?_)
        obtain rfl : y_467 = 0 := ey_467.trans (by decide)
        refine lv_icmp_gt (tgt := 1377) hx hb dL_law_24 (by decide) (fun c_468 => ?_) (fun c_468 => ?_)
        · refine lv_iconst (v := 1) hx hb dL_law_1377 (by decide) ?_
          refine va_forget (fun q hq => hS.2.2 q hq) ?_
          refine W.widen (k := 600000) (n := 7302250) (Nat.le_of_ble_eq_true rfl) (Nat.le_of_ble_eq_true rfl) ?_
          exact lw_ret hx hb hr hlocks dL_law_1378
        · exact absurd c_468 (by decide)
      · exact absurd c_465 (by decide)
    · exfalso; omega
  · refine lv_aload_n hx hb dL_law_842 rfl (lv_at hl 1 rfl) ?_
    refine lv_aload_n hx hb dL_law_843 rfl (lv_at hl 3 rfl) ?_
    refine lv_iload_n hx hb dL_law_844 rfl (lv_at hl 0 rfl) ?_
    refine lv_iconst (v := 1) hx hb dL_law_845 (by decide) ?_
    refine lv_iadd hx hb dL_law_846 ?_
    refine lv_topi (fun y_469 ey_469 => ?_)
    obtain rfl : y_469 = 1 := ey_469.trans (by decide)
    refine va_sld hx hb hX hbl hbA hS (zf_in (by decide) (by decide)) dL_law_847 ?_
    refine lv_topi (fun y_470 ey_470 => ?_)
    obtain rfl : a_3 = y_470 := ea_3.trans ey_470.symm
    refine lv_aload_n hx hb dL_law_848 rfl (lv_at hl 3 rfl) ?_
    refine lv_iload_n hx hb dL_law_849 rfl (lv_at hl 0 rfl) ?_
    refine lv_iconst (v := 2) hx hb dL_law_850 (by decide) ?_
    refine lv_iadd hx hb dL_law_851 ?_
    refine lv_topi (fun y_471 ey_471 => ?_)
    obtain rfl : y_471 = 2 := ey_471.trans (by decide)
    refine va_sld hx hb hX hbl hbA hS (zf_in (by decide) (by decide)) dL_law_852 ?_
    refine lv_topi (fun y_472 ey_472 => ?_)
    obtain rfl : a_6 = y_472 := ea_6.trans ey_472.symm
    skip
    refine zw_V (As := [.int a_3, .int a_6]) (rest := [.int (-1)]) (wr := [(mki, .inl (cI, 8, .inl (fun _ => 0))), (mpa, .inl (cI, 8, .inl (fun _ => 0))), (mta, .inl (cI, 8, .inl (fun _ => 0))), (mla, .inl (cI, 40, .inl (fun _ => 0))), (msl, .inl (cI, 40, .inl (fun _ => 0))), (mco, .inl (cI, 3, .inl (zL3 5 10 50))), (mhe, .inl (cI, 8, .inl (fun _ => 0))), (mso, .inl (cI, 8, .inl (fun _ => 0))), (msi, .inl (cI, 8, .inl (fun _ => 0))), (msh, .inl (cI, 8, .inl (fun _ => 0))), (mce, .inl (cJ, 1280, .inr (.inl (fun _ => 0)))), (mca, .inl (cJ, 160, .inr (.inl (fun _ => 0)))), (mwo, .inl (cI, 64, .inl fw_)), (mnu, .inl (cI, 10, .inl fn_)), (mte, .inl (cI, 3, .inl (fun _ => 0))), (mwa, .inl (cI, 130, .inl (fun _ => 0))), (mke, .inl (cI, 130, .inl (fun _ => 0))), (mma, .inl (cI, 3, .inl (fun _ => 0))), (mth, .inl (cI, 3, .inl (fun _ => 0))), (mtr, .inl (cI, 20, .inl (fun _ => 0)))]) ⟨hx, hb, hml, hown, hts⟩ (c_M_line l D cI cJ cZ cP cS m0 mrf mki mpa mta mla msl mco mhe mso msi msh mce mca mwo mnu mte mwa mke mma mth mtr (a_3) (a_6)  H.size) (cwV 2 hts gq_94 rfl rfl rfl (by decide +kernel) ⟨Nat.le_of_ble_eq_true rfl, Nat.le_of_ble_eq_true rfl⟩) hK hN (hZ.kept hS) hP hD hS hA [0, 1] [2, 3, 4, 5, 6, 7, 8, 9, 10, 11, 12, 13, 14, 15, 16, 17, 18, 19, 20, 21] rfl rfl (by decide) (by decide) (by decide) (va_recv hK hP (ci := 8) (q0 := 0) rfl rfl) rfl hl.1 rfl (Nat.le_of_ble_eq_true rfl) dL_law_853 ⟨Nat.le_of_ble_eq_true rfl, Nat.le_of_ble_eq_true rfl⟩ (fun r_473 u_474 H locs hr_473 hP hD hS => ?_)
    replace hP : va_P D vwCl [(mki, .inl (cI, 8, .inl (fun _ => 0))), (mpa, .inl (cI, 8, .inl (fun _ => 0))), (mta, .inl (cI, 8, .inl (fun _ => 0))), (mla, .inl (cI, 40, .inl (fun _ => 0))), (msl, .inl (cI, 40, .inl (fun _ => 0))), (mco, .inl (cI, 3, .inl (zL3 5 10 50))), (mhe, .inl (cI, 8, .inl (fun _ => 0))), (mso, .inl (cI, 8, .inl (fun _ => 0))), (msi, .inl (cI, 8, .inl (fun _ => 0))), (msh, .inl (cI, 8, .inl (fun _ => 0))), (mce, .inl (cJ, 1280, .inr (.inl (fun _ => 0)))), (mca, .inl (cJ, 160, .inr (.inl (fun _ => 0)))), (mwo, .inl (cI, 64, .inl fw_)), (mnu, .inl (cI, 10, .inl fn_)), (mte, .inl (cI, 3, .inl (fun _ => 0))), (mwa, .inl (cI, 130, .inl (fun _ => 0))), (mke, .inl (cI, 130, .inl (fun _ => 0))), (mma, .inl (cI, 3, .inl (fun _ => 0))), (mth, .inl (cI, 3, .inl (fun _ => 0))), (mtr, .inl (cI, 20, .inl (fun _ => 0)))] H := hP
    replace hD : va_D _ [(mki, .inl (cI, 8, .inl (fun _ => 0))), (mpa, .inl (cI, 8, .inl (fun _ => 0))), (mta, .inl (cI, 8, .inl (fun _ => 0))), (mla, .inl (cI, 40, .inl (fun _ => 0))), (msl, .inl (cI, 40, .inl (fun _ => 0))), (mco, .inl (cI, 3, .inl (zL3 5 10 50))), (mhe, .inl (cI, 8, .inl (fun _ => 0))), (mso, .inl (cI, 8, .inl (fun _ => 0))), (msi, .inl (cI, 8, .inl (fun _ => 0))), (msh, .inl (cI, 8, .inl (fun _ => 0))), (mce, .inl (cJ, 1280, .inr (.inl (fun _ => 0)))), (mca, .inl (cJ, 160, .inr (.inl (fun _ => 0)))), (mwo, .inl (cI, 64, .inl fw_)), (mnu, .inl (cI, 10, .inl fn_)), (mte, .inl (cI, 3, .inl (fun _ => 0))), (mwa, .inl (cI, 130, .inl (fun _ => 0))), (mke, .inl (cI, 130, .inl (fun _ => 0))), (mma, .inl (cI, 3, .inl (fun _ => 0))), (mth, .inl (cI, 3, .inl (fun _ => 0))), (mtr, .inl (cI, 20, .inl (fun _ => 0)))] := hD
    rcases hr_473 with ⟨rfl, g_475⟩ | ⟨rfl, g_476, g_477, g_478⟩ | ⟨rfl, g_479, g_480, g_481, g_482⟩ | ⟨rfl, g_483, g_484, g_485, g_486, g_487⟩ | ⟨rfl, g_488, g_489, g_490, g_491, g_492⟩ | ⟨rfl, g_493, g_494⟩
    · exfalso; omega
    · exfalso; omega
    · exfalso; omega
    · refine lv_icmp_eq (tgt := 1371) hx hb dL_law_856 (by decide) (fun c_495 => ?_) (fun c_495 => ?_)
      · refine lv_iinc (v := 6) (lv' := [(3, .int 6), (2, .ref m0), (1, .ref x0), (0, .ref b)]) hx hb dL_law_1371 hl (k := 0) rfl (by decide) (by decide) rfl (fun ls hl => ?_)
        refine lv_goto (tgt := 18) hx hb dL_law_1374 (by decide) ?_
        refine lv_iload_n hx hb dL_law_18 rfl (lv_at hl 0 rfl) ?_
        refine lv_aload_n hx hb dL_law_19 rfl (lv_at hl 3 rfl) ?_
        refine va_slen hx hb hX hbl hbA hS dL_law_20 ?_
        refine lv_topi (fun y_496 ey_496 => ?_)
        obtain rfl : y_496 = 6 := ey_496.trans (by decide)
        refine lv_bipush (v := 6) hx hb dL_law_21 (by decide) ?_
        refine lv_isub hx hb dL_law_23 ?_
        refine lv_topi (fun y_497 ey_497 => ?_)
        obtain rfl : y_497 = 0 := ey_497.trans (by decide)
        refine lv_icmp_gt (tgt := 1377) hx hb dL_law_24 (by decide) (fun c_498 => ?_) (fun c_498 => ?_)
        · refine lv_iconst (v := 1) hx hb dL_law_1377 (by decide) ?_
          refine va_forget (fun q hq => hS.2.2 q hq) ?_
          refine W.widen (k := 600000) (n := 7302250) (Nat.le_of_ble_eq_true rfl) (Nat.le_of_ble_eq_true rfl) ?_
          exact lw_ret hx hb hr hlocks dL_law_1378
        · exact absurd c_498 (by decide)
      · exact absurd c_495 (by decide)
    · exfalso; omega
    · exfalso; omega
set_option maxHeartbeats 8000000 in
set_option maxRecDepth 100000 in
theorem law_case_18 {p : Program} {l : Launch} {e : Env} {s : State} {m : MethodId} {below : List Frame} {meth : Method} {c : Code} {D : va_G} {cI cJ cZ cP cS : ClassId} {b : Nat} {xs_ : Nat → Int32} (x0 xs j0 k0 w0 rd mv xr z0 jp jc zl zs kz kp kc kzl kzs wk wl wc wp ri rl mb m0 mrf mki mpa mta mla msl mco mhe mso msi msh mce mca mwo mnu mte mwa mke mma mth mtr : Nat) (sh el : Nat → Nat) (fw_ fn_ : Nat → Int32) (C0 : lw_At p s m meth c b 6 xs_) (hK : va_K D vwCl (zKT cI cJ cZ cP cS) s) (hN : zN s) (hZ : zSt (fun q : Nat => s.heap.size ≤ q) s s.heap) (H : Heap) (locs : List Loc) (hP : va_P D vwCl (zLW cI cJ cZ cP cS x0 xs j0 k0 w0 rd mv xr z0 jp jc zl zs kz kp kc kzl kzs wk wl wc wp ri rl mb m0 mrf mki mpa mta mla msl mco mhe mso msi msh mce mca mwo mnu mte mwa mke mma mth mtr sh el fw_ fn_) H) (hD : va_D (fun q : Nat => s.heap.size ≤ q) (zLW cI cJ cZ cP cS x0 xs j0 k0 w0 rd mv xr z0 jp jc zl zs kz kp kc kzl kzs wk wl wc wp ri rl mb m0 mrf mki mpa mta mla msl mco mhe mso msi msh mce mca mwo mnu mte mwa mke mma mth mtr sh el fw_ fn_)) (hS : va_S (fun q : Nat => s.heap.size ≤ q) s.heap H locs) (ls : Array Slot) (hl : lv_has ls 4 [(3, .int 0), (2, .ref m0), (1, .ref x0), (0, .ref b)]) : W p l e room_1 s m #[Value.ref b] below meth c H locs 100 10000 (lw_Z below #[Value.ref b] s) (F0 m 861 ls []) := by
  obtain ⟨hx, hb, hr, hml, hown0, hts, hX, hbl, hlocks, hgv⟩ := id C0
  have hown : s.vm.findClass RL = some m.cls := hown0
  have hA : ∀ q : Nat, s.heap.size ≤ q → (fun q : Nat => s.heap.size ≤ q) q := fun _ h => h
  have hbA : ¬ (fun q : Nat => s.heap.size ≤ q) b := Nat.not_le.mpr hbl
  replace hP : va_P D vwCl ((x0, .inr (7, [.ref xs, .ref j0, .ref k0, .ref w0, .ref rd, .ref mv, .ref xr, .int 0, .int (-1)])) :: (xs, .inl (cS, 8, .inr (.inr (.inr (.inr (zS sh)))))) :: (j0, .inr (0, [.ref z0, .ref jp, .ref jc, .int 0, .int 0, .int 0, .int 60, .int 0, .int 1])) :: (z0, .inr (6, [.ref zl, .ref zs, .int 20, .int 0, .int 3])) :: (zl, .inl (cZ, 40, .inl (fun _ => 0))) :: (zs, .inl (cI, 40, .inl (fun _ => 0))) :: (jp, .inl (cP, 8, .inr (.inr (.inr (.inr (fun _ => none)))))) :: (jc, .inl (cI, 3, .inl (zL3 5 10 50))) :: (k0, .inr (0, [.ref kz, .ref kp, .ref kc, .int 0, .int 0, .int 0, .int 60, .int 0, .int 1])) :: (kz, .inr (6, [.ref kzl, .ref kzs, .int 20, .int 0, .int 3])) :: (kzl, .inl (cZ, 40, .inl (fun _ => 0))) :: (kzs, .inl (cI, 40, .inl (fun _ => 0))) :: (kp, .inl (cP, 8, .inr (.inr (.inr (.inr (fun _ => none)))))) :: (kc, .inl (cI, 3, .inl (zL3 5 10 50))) :: (w0, .inr (5, [.ref wk, .ref wl, .ref wc, .ref wp, .int 0, .int 0, .int 0])) :: (wk, .inl (cI, 125, .inl (fun _ => 0))) :: (wl, .inl (cI, 125, .inl (fun _ => 0))) :: (wc, .inl (cI, 3, .inl (fun _ => 0))) :: (wp, .inl (cP, 8, .inr (.inr (.inr (.inr (fun _ => none)))))) :: (rd, .inr (3, [.ref ri, .ref rl, .int 0, .int 0, .int 0, .int (-1), .int 0, .int 0])) :: (ri, .inl (cI, 132, .inl (fun _ => 0))) :: (rl, .inl (cI, 160, .inl (fun _ => 0))) :: (mv, .inr (1, [.ref mb, .int 0, .int 0, .int 0, .int 0])) :: (mb, .inl (cI, 20, .inl (fun _ => 0))) :: (xr, .inl (cI, 8, .inl (fun _ => 0))) :: ((sh 0), .inr (4, [.ref (el 0), .int (-1), .int 0])) :: ((el 0), .inl (cJ, 160, .inr (.inl (fun _ => 0)))) :: ((sh 1), .inr (4, [.ref (el 1), .int (-1), .int 0])) :: ((el 1), .inl (cJ, 160, .inr (.inl (fun _ => 0)))) :: ((sh 2), .inr (4, [.ref (el 2), .int (-1), .int 0])) :: ((el 2), .inl (cJ, 160, .inr (.inl (fun _ => 0)))) :: ((sh 3), .inr (4, [.ref (el 3), .int (-1), .int 0])) :: ((el 3), .inl (cJ, 160, .inr (.inl (fun _ => 0)))) :: ((sh 4), .inr (4, [.ref (el 4), .int (-1), .int 0])) :: ((el 4), .inl (cJ, 160, .inr (.inl (fun _ => 0)))) :: ((sh 5), .inr (4, [.ref (el 5), .int (-1), .int 0])) :: ((el 5), .inl (cJ, 160, .inr (.inl (fun _ => 0)))) :: ((sh 6), .inr (4, [.ref (el 6), .int (-1), .int 0])) :: ((el 6), .inl (cJ, 160, .inr (.inl (fun _ => 0)))) :: ((sh 7), .inr (4, [.ref (el 7), .int (-1), .int 0])) :: ((el 7), .inl (cJ, 160, .inr (.inl (fun _ => 0)))) :: (m0, .inr (8, (.int 0 :: .int 20 :: .int 0 :: .int 0 :: .int 0 :: .int 60 :: .int 0 :: .int 3 :: .int 1 :: .int (-1) :: .ref mrf :: .ref mki :: .ref mpa :: .ref mta :: .ref mla :: .ref msl :: .ref mco :: .ref mhe :: .ref mso :: .ref msi :: .ref msh :: .ref mce :: .ref mca :: .ref mwo :: .ref mnu :: .ref mte :: .int 0 :: .int 0 :: .int 0 :: .int 0 :: .int 0 :: .ref mwa :: .ref mke :: .ref mma :: .ref mth :: .ref mtr :: .int 0 :: .int 0 :: []))) :: (mrf, .inl (cI, 8, .inl (fun _ => 0))) :: (mki, .inl (cI, 8, .inl (fun _ => 0))) :: (mpa, .inl (cI, 8, .inl (fun _ => 0))) :: (mta, .inl (cI, 8, .inl (fun _ => 0))) :: (mla, .inl (cI, 40, .inl (fun _ => 0))) :: (msl, .inl (cI, 40, .inl (fun _ => 0))) :: (mco, .inl (cI, 3, .inl (zL3 5 10 50))) :: (mhe, .inl (cI, 8, .inl (fun _ => 0))) :: (mso, .inl (cI, 8, .inl (fun _ => 0))) :: (msi, .inl (cI, 8, .inl (fun _ => 0))) :: (msh, .inl (cI, 8, .inl (fun _ => 0))) :: (mce, .inl (cJ, 1280, .inr (.inl (fun _ => 0)))) :: (mca, .inl (cJ, 160, .inr (.inl (fun _ => 0)))) :: (mwo, .inl (cI, 64, .inl fw_)) :: (mnu, .inl (cI, 10, .inl fn_)) :: (mte, .inl (cI, 3, .inl (fun _ => 0))) :: (mwa, .inl (cI, 130, .inl (fun _ => 0))) :: (mke, .inl (cI, 130, .inl (fun _ => 0))) :: (mma, .inl (cI, 3, .inl (fun _ => 0))) :: (mth, .inl (cI, 3, .inl (fun _ => 0))) :: (mtr, .inl (cI, 20, .inl (fun _ => 0))) :: []) H := hP
  replace hD : va_D _ ((x0, .inr (7, [.ref xs, .ref j0, .ref k0, .ref w0, .ref rd, .ref mv, .ref xr, .int 0, .int (-1)])) :: (xs, .inl (cS, 8, .inr (.inr (.inr (.inr (zS sh)))))) :: (j0, .inr (0, [.ref z0, .ref jp, .ref jc, .int 0, .int 0, .int 0, .int 60, .int 0, .int 1])) :: (z0, .inr (6, [.ref zl, .ref zs, .int 20, .int 0, .int 3])) :: (zl, .inl (cZ, 40, .inl (fun _ => 0))) :: (zs, .inl (cI, 40, .inl (fun _ => 0))) :: (jp, .inl (cP, 8, .inr (.inr (.inr (.inr (fun _ => none)))))) :: (jc, .inl (cI, 3, .inl (zL3 5 10 50))) :: (k0, .inr (0, [.ref kz, .ref kp, .ref kc, .int 0, .int 0, .int 0, .int 60, .int 0, .int 1])) :: (kz, .inr (6, [.ref kzl, .ref kzs, .int 20, .int 0, .int 3])) :: (kzl, .inl (cZ, 40, .inl (fun _ => 0))) :: (kzs, .inl (cI, 40, .inl (fun _ => 0))) :: (kp, .inl (cP, 8, .inr (.inr (.inr (.inr (fun _ => none)))))) :: (kc, .inl (cI, 3, .inl (zL3 5 10 50))) :: (w0, .inr (5, [.ref wk, .ref wl, .ref wc, .ref wp, .int 0, .int 0, .int 0])) :: (wk, .inl (cI, 125, .inl (fun _ => 0))) :: (wl, .inl (cI, 125, .inl (fun _ => 0))) :: (wc, .inl (cI, 3, .inl (fun _ => 0))) :: (wp, .inl (cP, 8, .inr (.inr (.inr (.inr (fun _ => none)))))) :: (rd, .inr (3, [.ref ri, .ref rl, .int 0, .int 0, .int 0, .int (-1), .int 0, .int 0])) :: (ri, .inl (cI, 132, .inl (fun _ => 0))) :: (rl, .inl (cI, 160, .inl (fun _ => 0))) :: (mv, .inr (1, [.ref mb, .int 0, .int 0, .int 0, .int 0])) :: (mb, .inl (cI, 20, .inl (fun _ => 0))) :: (xr, .inl (cI, 8, .inl (fun _ => 0))) :: ((sh 0), .inr (4, [.ref (el 0), .int (-1), .int 0])) :: ((el 0), .inl (cJ, 160, .inr (.inl (fun _ => 0)))) :: ((sh 1), .inr (4, [.ref (el 1), .int (-1), .int 0])) :: ((el 1), .inl (cJ, 160, .inr (.inl (fun _ => 0)))) :: ((sh 2), .inr (4, [.ref (el 2), .int (-1), .int 0])) :: ((el 2), .inl (cJ, 160, .inr (.inl (fun _ => 0)))) :: ((sh 3), .inr (4, [.ref (el 3), .int (-1), .int 0])) :: ((el 3), .inl (cJ, 160, .inr (.inl (fun _ => 0)))) :: ((sh 4), .inr (4, [.ref (el 4), .int (-1), .int 0])) :: ((el 4), .inl (cJ, 160, .inr (.inl (fun _ => 0)))) :: ((sh 5), .inr (4, [.ref (el 5), .int (-1), .int 0])) :: ((el 5), .inl (cJ, 160, .inr (.inl (fun _ => 0)))) :: ((sh 6), .inr (4, [.ref (el 6), .int (-1), .int 0])) :: ((el 6), .inl (cJ, 160, .inr (.inl (fun _ => 0)))) :: ((sh 7), .inr (4, [.ref (el 7), .int (-1), .int 0])) :: ((el 7), .inl (cJ, 160, .inr (.inl (fun _ => 0)))) :: (m0, .inr (8, (.int 0 :: .int 20 :: .int 0 :: .int 0 :: .int 0 :: .int 60 :: .int 0 :: .int 3 :: .int 1 :: .int (-1) :: .ref mrf :: .ref mki :: .ref mpa :: .ref mta :: .ref mla :: .ref msl :: .ref mco :: .ref mhe :: .ref mso :: .ref msi :: .ref msh :: .ref mce :: .ref mca :: .ref mwo :: .ref mnu :: .ref mte :: .int 0 :: .int 0 :: .int 0 :: .int 0 :: .int 0 :: .ref mwa :: .ref mke :: .ref mma :: .ref mth :: .ref mtr :: .int 0 :: .int 0 :: []))) :: (mrf, .inl (cI, 8, .inl (fun _ => 0))) :: (mki, .inl (cI, 8, .inl (fun _ => 0))) :: (mpa, .inl (cI, 8, .inl (fun _ => 0))) :: (mta, .inl (cI, 8, .inl (fun _ => 0))) :: (mla, .inl (cI, 40, .inl (fun _ => 0))) :: (msl, .inl (cI, 40, .inl (fun _ => 0))) :: (mco, .inl (cI, 3, .inl (zL3 5 10 50))) :: (mhe, .inl (cI, 8, .inl (fun _ => 0))) :: (mso, .inl (cI, 8, .inl (fun _ => 0))) :: (msi, .inl (cI, 8, .inl (fun _ => 0))) :: (msh, .inl (cI, 8, .inl (fun _ => 0))) :: (mce, .inl (cJ, 1280, .inr (.inl (fun _ => 0)))) :: (mca, .inl (cJ, 160, .inr (.inl (fun _ => 0)))) :: (mwo, .inl (cI, 64, .inl fw_)) :: (mnu, .inl (cI, 10, .inl fn_)) :: (mte, .inl (cI, 3, .inl (fun _ => 0))) :: (mwa, .inl (cI, 130, .inl (fun _ => 0))) :: (mke, .inl (cI, 130, .inl (fun _ => 0))) :: (mma, .inl (cI, 3, .inl (fun _ => 0))) :: (mth, .inl (cI, 3, .inl (fun _ => 0))) :: (mtr, .inl (cI, 20, .inl (fun _ => 0))) :: []) := hD
  refine lv_aload_n hx hb dL_law_861 rfl (lv_at hl 2 rfl) ?_
  refine lv_aload_n hx hb dL_law_862 rfl (lv_at hl 3 rfl) ?_
  refine lv_iload_n hx hb dL_law_863 rfl (lv_at hl 0 rfl) ?_
  refine lv_iconst (v := 1) hx hb dL_law_864 (by decide) ?_
  refine lv_iadd hx hb dL_law_865 ?_
  refine lv_topi (fun y_1 ey_1 => ?_)
  obtain rfl : y_1 = 1 := ey_1.trans (by decide)
  refine va_sld hx hb hX hbl hbA hS (zf_in (by decide) (by decide)) dL_law_866 ?_
  refine lv_topi (fun a_3 ea_3 => ?_)
  refine lv_aload_n hx hb dL_law_867 rfl (lv_at hl 3 rfl) ?_
  refine lv_iload_n hx hb dL_law_868 rfl (lv_at hl 0 rfl) ?_
  refine lv_iconst (v := 2) hx hb dL_law_869 (by decide) ?_
  refine lv_iadd hx hb dL_law_870 ?_
  refine lv_topi (fun y_4 ey_4 => ?_)
  obtain rfl : y_4 = 2 := ey_4.trans (by decide)
  refine va_sld hx hb hX hbl hbA hS (zf_in (by decide) (by decide)) dL_law_871 ?_
  refine lv_topi (fun a_6 ea_6 => ?_)
  skip
  refine zw_V (As := [.int a_3, .int a_6]) (rest := []) (wr := ((m0, .inr (8, (.int 0 :: .int 20 :: .int 0 :: .int 0 :: .int 0 :: .int 60 :: .int 0 :: .int 3 :: .int 1 :: .int (-1) :: .ref mrf :: .ref mki :: .ref mpa :: .ref mta :: .ref mla :: .ref msl :: .ref mco :: .ref mhe :: .ref mso :: .ref msi :: .ref msh :: .ref mce :: .ref mca :: .ref mwo :: .ref mnu :: .ref mte :: .int 0 :: .int 0 :: .int 0 :: .int 0 :: .int 0 :: .ref mwa :: .ref mke :: .ref mma :: .ref mth :: .ref mtr :: .int 0 :: .int 0 :: []))) :: (mrf, .inl (cI, 8, .inl (fun _ => 0))) :: (mki, .inl (cI, 8, .inl (fun _ => 0))) :: (mpa, .inl (cI, 8, .inl (fun _ => 0))) :: (mta, .inl (cI, 8, .inl (fun _ => 0))) :: (mla, .inl (cI, 40, .inl (fun _ => 0))) :: (msl, .inl (cI, 40, .inl (fun _ => 0))) :: (mco, .inl (cI, 3, .inl (zL3 5 10 50))) :: (mhe, .inl (cI, 8, .inl (fun _ => 0))) :: (mso, .inl (cI, 8, .inl (fun _ => 0))) :: (msi, .inl (cI, 8, .inl (fun _ => 0))) :: (msh, .inl (cI, 8, .inl (fun _ => 0))) :: (mce, .inl (cJ, 1280, .inr (.inl (fun _ => 0)))) :: (mca, .inl (cJ, 160, .inr (.inl (fun _ => 0)))) :: (mwo, .inl (cI, 64, .inl fw_)) :: (mnu, .inl (cI, 10, .inl fn_)) :: (mte, .inl (cI, 3, .inl (fun _ => 0))) :: (mwa, .inl (cI, 130, .inl (fun _ => 0))) :: (mke, .inl (cI, 130, .inl (fun _ => 0))) :: (mma, .inl (cI, 3, .inl (fun _ => 0))) :: (mth, .inl (cI, 3, .inl (fun _ => 0))) :: (mtr, .inl (cI, 20, .inl (fun _ => 0))) :: [])) ⟨hx, hb, hml, hown, hts⟩ (c_haste l D cI cJ cZ cP cS x0 xs j0 k0 w0 rd mv xr jp jc z0 0 0 wk wl wc wp ((fun _ => 0)) ((fun _ => 0)) ((fun _ => 0)) (a_3) (a_6)  H.size) (cwV 2 hts gq_95 rfl rfl rfl (by decide +kernel) ⟨Nat.le_of_ble_eq_true rfl, Nat.le_of_ble_eq_true rfl⟩) hK hN (hZ.kept hS) hP hD hS hA [0, 24, 14, 15, 16, 17, 2, 7] [41, 42, 43, 44, 45, 46, 47, 48, 49, 50, 51, 52, 53, 54, 55, 56, 57, 58, 59, 60, 61, 62] rfl rfl (by decide) (by decide) (by decide) (va_recv hK hP (ci := 7) (q0 := 0) rfl rfl) rfl hl.1 rfl (Nat.le_of_ble_eq_true rfl) dL_law_872 ⟨Nat.le_of_ble_eq_true rfl, Nat.le_of_ble_eq_true rfl⟩ (fun r_7 u_8 H locs hr_7 hP hD hS => ?_)
  replace hP : va_P D vwCl ((m0, .inr (8, (.int 0 :: .int 20 :: .int 0 :: .int 0 :: .int 0 :: .int 60 :: .int 0 :: .int 3 :: .int 1 :: .int (-1) :: .ref mrf :: .ref mki :: .ref mpa :: .ref mta :: .ref mla :: .ref msl :: .ref mco :: .ref mhe :: .ref mso :: .ref msi :: .ref msh :: .ref mce :: .ref mca :: .ref mwo :: .ref mnu :: .ref mte :: .int 0 :: .int 0 :: .int 0 :: .int 0 :: .int 0 :: .ref mwa :: .ref mke :: .ref mma :: .ref mth :: .ref mtr :: .int 0 :: .int 0 :: []))) :: (mrf, .inl (cI, 8, .inl (fun _ => 0))) :: (mki, .inl (cI, 8, .inl (fun _ => 0))) :: (mpa, .inl (cI, 8, .inl (fun _ => 0))) :: (mta, .inl (cI, 8, .inl (fun _ => 0))) :: (mla, .inl (cI, 40, .inl (fun _ => 0))) :: (msl, .inl (cI, 40, .inl (fun _ => 0))) :: (mco, .inl (cI, 3, .inl (zL3 5 10 50))) :: (mhe, .inl (cI, 8, .inl (fun _ => 0))) :: (mso, .inl (cI, 8, .inl (fun _ => 0))) :: (msi, .inl (cI, 8, .inl (fun _ => 0))) :: (msh, .inl (cI, 8, .inl (fun _ => 0))) :: (mce, .inl (cJ, 1280, .inr (.inl (fun _ => 0)))) :: (mca, .inl (cJ, 160, .inr (.inl (fun _ => 0)))) :: (mwo, .inl (cI, 64, .inl fw_)) :: (mnu, .inl (cI, 10, .inl fn_)) :: (mte, .inl (cI, 3, .inl (fun _ => 0))) :: (mwa, .inl (cI, 130, .inl (fun _ => 0))) :: (mke, .inl (cI, 130, .inl (fun _ => 0))) :: (mma, .inl (cI, 3, .inl (fun _ => 0))) :: (mth, .inl (cI, 3, .inl (fun _ => 0))) :: (mtr, .inl (cI, 20, .inl (fun _ => 0))) :: []) H := hP
  replace hD : va_D _ ((m0, .inr (8, (.int 0 :: .int 20 :: .int 0 :: .int 0 :: .int 0 :: .int 60 :: .int 0 :: .int 3 :: .int 1 :: .int (-1) :: .ref mrf :: .ref mki :: .ref mpa :: .ref mta :: .ref mla :: .ref msl :: .ref mco :: .ref mhe :: .ref mso :: .ref msi :: .ref msh :: .ref mce :: .ref mca :: .ref mwo :: .ref mnu :: .ref mte :: .int 0 :: .int 0 :: .int 0 :: .int 0 :: .int 0 :: .ref mwa :: .ref mke :: .ref mma :: .ref mth :: .ref mtr :: .int 0 :: .int 0 :: []))) :: (mrf, .inl (cI, 8, .inl (fun _ => 0))) :: (mki, .inl (cI, 8, .inl (fun _ => 0))) :: (mpa, .inl (cI, 8, .inl (fun _ => 0))) :: (mta, .inl (cI, 8, .inl (fun _ => 0))) :: (mla, .inl (cI, 40, .inl (fun _ => 0))) :: (msl, .inl (cI, 40, .inl (fun _ => 0))) :: (mco, .inl (cI, 3, .inl (zL3 5 10 50))) :: (mhe, .inl (cI, 8, .inl (fun _ => 0))) :: (mso, .inl (cI, 8, .inl (fun _ => 0))) :: (msi, .inl (cI, 8, .inl (fun _ => 0))) :: (msh, .inl (cI, 8, .inl (fun _ => 0))) :: (mce, .inl (cJ, 1280, .inr (.inl (fun _ => 0)))) :: (mca, .inl (cJ, 160, .inr (.inl (fun _ => 0)))) :: (mwo, .inl (cI, 64, .inl fw_)) :: (mnu, .inl (cI, 10, .inl fn_)) :: (mte, .inl (cI, 3, .inl (fun _ => 0))) :: (mwa, .inl (cI, 130, .inl (fun _ => 0))) :: (mke, .inl (cI, 130, .inl (fun _ => 0))) :: (mma, .inl (cI, 3, .inl (fun _ => 0))) :: (mth, .inl (cI, 3, .inl (fun _ => 0))) :: (mtr, .inl (cI, 20, .inl (fun _ => 0))) :: []) := hD
  rcases hr_7 with ⟨rfl, g_9⟩ | ⟨rfl, g_10, g_11⟩ | ⟨rfl, g_12, g_13, g_14⟩ | ⟨rfl, g_15, g_16, g_17, g_18⟩ | ⟨rfl, g_19, g_20, g_21, g_22, g_23, g_24⟩ | ⟨rfl, g_25, g_26, g_27, g_28, g_29, g_30⟩ | ⟨rfl, g_31, g_32, g_33, g_34, g_35, g_36⟩ | ⟨rfl, g_37, g_38, g_39, g_40, g_41, g_42⟩ | ⟨rfl, g_43, g_44, g_45, g_46, g_47, g_48⟩ | ⟨rfl, g_49, g_50, g_51, g_52, g_53, g_54⟩ | ⟨rfl, g_55, g_56, g_57, g_58, g_59, g_60⟩ | ⟨rfl, g_61, g_62, g_63, g_64, g_65, g_66⟩ | ⟨rfl, g_67, g_68, g_69, g_70, g_71, g_72⟩ | ⟨rfl, g_73, g_74, g_75, g_76, g_77, g_78⟩
  · refine lv_aload_n hx hb dL_law_875 rfl (lv_at hl 1 rfl) ?_
    refine lv_aload_n hx hb dL_law_876 rfl (lv_at hl 3 rfl) ?_
    refine lv_iload_n hx hb dL_law_877 rfl (lv_at hl 0 rfl) ?_
    refine lv_iconst (v := 1) hx hb dL_law_878 (by decide) ?_
    refine lv_iadd hx hb dL_law_879 ?_
    refine lv_topi (fun y_79 ey_79 => ?_)
    obtain rfl : y_79 = 1 := ey_79.trans (by decide)
    refine va_sld hx hb hX hbl hbA hS (zf_in (by decide) (by decide)) dL_law_880 ?_
    refine lv_topi (fun y_80 ey_80 => ?_)
    obtain rfl : a_3 = y_80 := ea_3.trans ey_80.symm
    refine lv_aload_n hx hb dL_law_881 rfl (lv_at hl 3 rfl) ?_
    refine lv_iload_n hx hb dL_law_882 rfl (lv_at hl 0 rfl) ?_
    refine lv_iconst (v := 2) hx hb dL_law_883 (by decide) ?_
    refine lv_iadd hx hb dL_law_884 ?_
    refine lv_topi (fun y_81 ey_81 => ?_)
    obtain rfl : y_81 = 2 := ey_81.trans (by decide)
    refine va_sld hx hb hX hbl hbA hS (zf_in (by decide) (by decide)) dL_law_885 ?_
    refine lv_topi (fun y_82 ey_82 => ?_)
    obtain rfl : a_6 = y_82 := ea_6.trans ey_82.symm
    skip
    refine zw_V (As := [.int a_3, .int a_6]) (rest := [.int (-5)]) (wr := [(mki, .inl (cI, 8, .inl (fun _ => 0))), (mpa, .inl (cI, 8, .inl (fun _ => 0))), (mta, .inl (cI, 8, .inl (fun _ => 0))), (mla, .inl (cI, 40, .inl (fun _ => 0))), (msl, .inl (cI, 40, .inl (fun _ => 0))), (mco, .inl (cI, 3, .inl (zL3 5 10 50))), (mhe, .inl (cI, 8, .inl (fun _ => 0))), (mso, .inl (cI, 8, .inl (fun _ => 0))), (msi, .inl (cI, 8, .inl (fun _ => 0))), (msh, .inl (cI, 8, .inl (fun _ => 0))), (mce, .inl (cJ, 1280, .inr (.inl (fun _ => 0)))), (mca, .inl (cJ, 160, .inr (.inl (fun _ => 0)))), (mwo, .inl (cI, 64, .inl fw_)), (mnu, .inl (cI, 10, .inl fn_)), (mte, .inl (cI, 3, .inl (fun _ => 0))), (mwa, .inl (cI, 130, .inl (fun _ => 0))), (mke, .inl (cI, 130, .inl (fun _ => 0))), (mma, .inl (cI, 3, .inl (fun _ => 0))), (mth, .inl (cI, 3, .inl (fun _ => 0))), (mtr, .inl (cI, 20, .inl (fun _ => 0)))]) ⟨hx, hb, hml, hown, hts⟩ (c_M_haste l D cI cJ cZ cP cS m0 mrf mki mpa mta mla msl mco mhe mso msi msh mce mca mwo mnu mte mwa mke mma mth mtr (a_3) (a_6)  H.size) (cwV 2 hts gq_98 rfl rfl rfl (by decide +kernel) ⟨Nat.le_of_ble_eq_true rfl, Nat.le_of_ble_eq_true rfl⟩) hK hN (hZ.kept hS) hP hD hS hA [0, 1] [2, 3, 4, 5, 6, 7, 8, 9, 10, 11, 12, 13, 14, 15, 16, 17, 18, 19, 20, 21] rfl rfl (by decide) (by decide) (by decide) (va_recv hK hP (ci := 8) (q0 := 0) rfl rfl) rfl hl.1 rfl (Nat.le_of_ble_eq_true rfl) dL_law_886 ⟨Nat.le_of_ble_eq_true rfl, Nat.le_of_ble_eq_true rfl⟩ (fun r_83 u_84 H locs hr_83 hP hD hS => ?_)
    replace hP : va_P D vwCl [(mki, .inl (cI, 8, .inl (fun _ => 0))), (mpa, .inl (cI, 8, .inl (fun _ => 0))), (mta, .inl (cI, 8, .inl (fun _ => 0))), (mla, .inl (cI, 40, .inl (fun _ => 0))), (msl, .inl (cI, 40, .inl (fun _ => 0))), (mco, .inl (cI, 3, .inl (zL3 5 10 50))), (mhe, .inl (cI, 8, .inl (fun _ => 0))), (mso, .inl (cI, 8, .inl (fun _ => 0))), (msi, .inl (cI, 8, .inl (fun _ => 0))), (msh, .inl (cI, 8, .inl (fun _ => 0))), (mce, .inl (cJ, 1280, .inr (.inl (fun _ => 0)))), (mca, .inl (cJ, 160, .inr (.inl (fun _ => 0)))), (mwo, .inl (cI, 64, .inl fw_)), (mnu, .inl (cI, 10, .inl fn_)), (mte, .inl (cI, 3, .inl (fun _ => 0))), (mwa, .inl (cI, 130, .inl (fun _ => 0))), (mke, .inl (cI, 130, .inl (fun _ => 0))), (mma, .inl (cI, 3, .inl (fun _ => 0))), (mth, .inl (cI, 3, .inl (fun _ => 0))), (mtr, .inl (cI, 20, .inl (fun _ => 0)))] H := hP
    replace hD : va_D _ [(mki, .inl (cI, 8, .inl (fun _ => 0))), (mpa, .inl (cI, 8, .inl (fun _ => 0))), (mta, .inl (cI, 8, .inl (fun _ => 0))), (mla, .inl (cI, 40, .inl (fun _ => 0))), (msl, .inl (cI, 40, .inl (fun _ => 0))), (mco, .inl (cI, 3, .inl (zL3 5 10 50))), (mhe, .inl (cI, 8, .inl (fun _ => 0))), (mso, .inl (cI, 8, .inl (fun _ => 0))), (msi, .inl (cI, 8, .inl (fun _ => 0))), (msh, .inl (cI, 8, .inl (fun _ => 0))), (mce, .inl (cJ, 1280, .inr (.inl (fun _ => 0)))), (mca, .inl (cJ, 160, .inr (.inl (fun _ => 0)))), (mwo, .inl (cI, 64, .inl fw_)), (mnu, .inl (cI, 10, .inl fn_)), (mte, .inl (cI, 3, .inl (fun _ => 0))), (mwa, .inl (cI, 130, .inl (fun _ => 0))), (mke, .inl (cI, 130, .inl (fun _ => 0))), (mma, .inl (cI, 3, .inl (fun _ => 0))), (mth, .inl (cI, 3, .inl (fun _ => 0))), (mtr, .inl (cI, 20, .inl (fun _ => 0)))] := hD
    rcases hr_83 with ⟨rfl, g_85⟩ | ⟨rfl, g_86, g_87, g_88⟩ | ⟨rfl, g_89, g_90, g_91, g_92⟩ | ⟨rfl, g_93, g_94, g_95, g_96, g_97, g_98⟩ | ⟨rfl, g_99, g_100, g_101, g_102, g_103, g_104⟩ | ⟨rfl, g_105, g_106, g_107, g_108, g_109, g_110⟩ | ⟨rfl, g_111, g_112, g_113, g_114, g_115, g_116⟩ | ⟨rfl, g_117, g_118, g_119, g_120, g_121, g_122⟩ | ⟨rfl, g_123, g_124, g_125, g_126, g_127, g_128⟩ | ⟨rfl, g_129, g_130, g_131, g_132, g_133, g_134⟩ | ⟨rfl, g_135, g_136, g_137, g_138, g_139, g_140⟩ | ⟨rfl, g_141, g_142, g_143, g_144, g_145, g_146⟩ | ⟨rfl, g_147, g_148, g_149, g_150, g_151, g_152⟩ | ⟨rfl, g_153, g_154⟩
    · refine lv_icmp_eq (tgt := 1371) hx hb dL_law_889 (by decide) (fun c_155 => ?_) (fun c_155 => ?_)
      · refine lv_iinc (v := 6) (lv' := [(3, .int 6), (2, .ref m0), (1, .ref x0), (0, .ref b)]) hx hb dL_law_1371 hl (k := 0) rfl (by decide) (by decide) rfl (fun ls hl => ?_)
        refine lv_goto (tgt := 18) hx hb dL_law_1374 (by decide) ?_
        refine lv_iload_n hx hb dL_law_18 rfl (lv_at hl 0 rfl) ?_
        refine lv_aload_n hx hb dL_law_19 rfl (lv_at hl 3 rfl) ?_
        refine va_slen hx hb hX hbl hbA hS dL_law_20 ?_
        refine lv_topi (fun y_156 ey_156 => ?_)
        obtain rfl : y_156 = 6 := ey_156.trans (by decide)
        refine lv_bipush (v := 6) hx hb dL_law_21 (by decide) ?_
        refine lv_isub hx hb dL_law_23 ?_
        refine lv_topi (fun y_157 ey_157 => ?_)
        obtain rfl : y_157 = 0 := ey_157.trans (by decide)
        refine lv_icmp_gt (tgt := 1377) hx hb dL_law_24 (by decide) (fun c_158 => ?_) (fun c_158 => ?_)
        · refine lv_iconst (v := 1) hx hb dL_law_1377 (by decide) ?_
          refine va_forget (fun q hq => hS.2.2 q hq) ?_
          refine W.widen (k := 600000) (n := 7302250) (Nat.le_of_ble_eq_true rfl) (Nat.le_of_ble_eq_true rfl) ?_
          exact lw_ret hx hb hr hlocks dL_law_1378
        · exact absurd c_158 (by decide)
      · exact absurd c_155 (by decide)
    · exfalso; omega
    · exfalso; omega
    · exfalso; omega
    · exfalso; omega
    · exfalso; omega
    · exfalso; omega
    · exfalso; omega
    · exfalso; omega
    · exfalso; omega
    · exfalso; omega
    · exfalso; omega
    · exfalso; omega
    · exfalso; omega
  · refine lv_aload_n hx hb dL_law_875 rfl (lv_at hl 1 rfl) ?_
    refine lv_aload_n hx hb dL_law_876 rfl (lv_at hl 3 rfl) ?_
    refine lv_iload_n hx hb dL_law_877 rfl (lv_at hl 0 rfl) ?_
    refine lv_iconst (v := 1) hx hb dL_law_878 (by decide) ?_
    refine lv_iadd hx hb dL_law_879 ?_
    refine lv_topi (fun y_159 ey_159 => ?_)
    obtain rfl : y_159 = 1 := ey_159.trans (by decide)
    refine va_sld hx hb hX hbl hbA hS (zf_in (by decide) (by decide)) dL_law_880 ?_
    refine lv_topi (fun y_160 ey_160 => ?_)
    obtain rfl : a_3 = y_160 := ea_3.trans ey_160.symm
    refine lv_aload_n hx hb dL_law_881 rfl (lv_at hl 3 rfl) ?_
    refine lv_iload_n hx hb dL_law_882 rfl (lv_at hl 0 rfl) ?_
    refine lv_iconst (v := 2) hx hb dL_law_883 (by decide) ?_
    refine lv_iadd hx hb dL_law_884 ?_
    refine lv_topi (fun y_161 ey_161 => ?_)
    obtain rfl : y_161 = 2 := ey_161.trans (by decide)
    refine va_sld hx hb hX hbl hbA hS (zf_in (by decide) (by decide)) dL_law_885 ?_
    refine lv_topi (fun y_162 ey_162 => ?_)
    obtain rfl : a_6 = y_162 := ea_6.trans ey_162.symm
    skip
    refine zw_V (As := [.int a_3, .int a_6]) (rest := [.int (-5)]) (wr := [(mki, .inl (cI, 8, .inl (fun _ => 0))), (mpa, .inl (cI, 8, .inl (fun _ => 0))), (mta, .inl (cI, 8, .inl (fun _ => 0))), (mla, .inl (cI, 40, .inl (fun _ => 0))), (msl, .inl (cI, 40, .inl (fun _ => 0))), (mco, .inl (cI, 3, .inl (zL3 5 10 50))), (mhe, .inl (cI, 8, .inl (fun _ => 0))), (mso, .inl (cI, 8, .inl (fun _ => 0))), (msi, .inl (cI, 8, .inl (fun _ => 0))), (msh, .inl (cI, 8, .inl (fun _ => 0))), (mce, .inl (cJ, 1280, .inr (.inl (fun _ => 0)))), (mca, .inl (cJ, 160, .inr (.inl (fun _ => 0)))), (mwo, .inl (cI, 64, .inl fw_)), (mnu, .inl (cI, 10, .inl fn_)), (mte, .inl (cI, 3, .inl (fun _ => 0))), (mwa, .inl (cI, 130, .inl (fun _ => 0))), (mke, .inl (cI, 130, .inl (fun _ => 0))), (mma, .inl (cI, 3, .inl (fun _ => 0))), (mth, .inl (cI, 3, .inl (fun _ => 0))), (mtr, .inl (cI, 20, .inl (fun _ => 0)))]) ⟨hx, hb, hml, hown, hts⟩ (c_M_haste l D cI cJ cZ cP cS m0 mrf mki mpa mta mla msl mco mhe mso msi msh mce mca mwo mnu mte mwa mke mma mth mtr (a_3) (a_6)  H.size) (cwV 2 hts gq_98 rfl rfl rfl (by decide +kernel) ⟨Nat.le_of_ble_eq_true rfl, Nat.le_of_ble_eq_true rfl⟩) hK hN (hZ.kept hS) hP hD hS hA [0, 1] [2, 3, 4, 5, 6, 7, 8, 9, 10, 11, 12, 13, 14, 15, 16, 17, 18, 19, 20, 21] rfl rfl (by decide) (by decide) (by decide) (va_recv hK hP (ci := 8) (q0 := 0) rfl rfl) rfl hl.1 rfl (Nat.le_of_ble_eq_true rfl) dL_law_886 ⟨Nat.le_of_ble_eq_true rfl, Nat.le_of_ble_eq_true rfl⟩ (fun r_163 u_164 H locs hr_163 hP hD hS => ?_)
    replace hP : va_P D vwCl [(mki, .inl (cI, 8, .inl (fun _ => 0))), (mpa, .inl (cI, 8, .inl (fun _ => 0))), (mta, .inl (cI, 8, .inl (fun _ => 0))), (mla, .inl (cI, 40, .inl (fun _ => 0))), (msl, .inl (cI, 40, .inl (fun _ => 0))), (mco, .inl (cI, 3, .inl (zL3 5 10 50))), (mhe, .inl (cI, 8, .inl (fun _ => 0))), (mso, .inl (cI, 8, .inl (fun _ => 0))), (msi, .inl (cI, 8, .inl (fun _ => 0))), (msh, .inl (cI, 8, .inl (fun _ => 0))), (mce, .inl (cJ, 1280, .inr (.inl (fun _ => 0)))), (mca, .inl (cJ, 160, .inr (.inl (fun _ => 0)))), (mwo, .inl (cI, 64, .inl fw_)), (mnu, .inl (cI, 10, .inl fn_)), (mte, .inl (cI, 3, .inl (fun _ => 0))), (mwa, .inl (cI, 130, .inl (fun _ => 0))), (mke, .inl (cI, 130, .inl (fun _ => 0))), (mma, .inl (cI, 3, .inl (fun _ => 0))), (mth, .inl (cI, 3, .inl (fun _ => 0))), (mtr, .inl (cI, 20, .inl (fun _ => 0)))] H := hP
    replace hD : va_D _ [(mki, .inl (cI, 8, .inl (fun _ => 0))), (mpa, .inl (cI, 8, .inl (fun _ => 0))), (mta, .inl (cI, 8, .inl (fun _ => 0))), (mla, .inl (cI, 40, .inl (fun _ => 0))), (msl, .inl (cI, 40, .inl (fun _ => 0))), (mco, .inl (cI, 3, .inl (zL3 5 10 50))), (mhe, .inl (cI, 8, .inl (fun _ => 0))), (mso, .inl (cI, 8, .inl (fun _ => 0))), (msi, .inl (cI, 8, .inl (fun _ => 0))), (msh, .inl (cI, 8, .inl (fun _ => 0))), (mce, .inl (cJ, 1280, .inr (.inl (fun _ => 0)))), (mca, .inl (cJ, 160, .inr (.inl (fun _ => 0)))), (mwo, .inl (cI, 64, .inl fw_)), (mnu, .inl (cI, 10, .inl fn_)), (mte, .inl (cI, 3, .inl (fun _ => 0))), (mwa, .inl (cI, 130, .inl (fun _ => 0))), (mke, .inl (cI, 130, .inl (fun _ => 0))), (mma, .inl (cI, 3, .inl (fun _ => 0))), (mth, .inl (cI, 3, .inl (fun _ => 0))), (mtr, .inl (cI, 20, .inl (fun _ => 0)))] := hD
    rcases hr_163 with ⟨rfl, g_165⟩ | ⟨rfl, g_166, g_167, g_168⟩ | ⟨rfl, g_169, g_170, g_171, g_172⟩ | ⟨rfl, g_173, g_174, g_175, g_176, g_177, g_178⟩ | ⟨rfl, g_179, g_180, g_181, g_182, g_183, g_184⟩ | ⟨rfl, g_185, g_186, g_187, g_188, g_189, g_190⟩ | ⟨rfl, g_191, g_192, g_193, g_194, g_195, g_196⟩ | ⟨rfl, g_197, g_198, g_199, g_200, g_201, g_202⟩ | ⟨rfl, g_203, g_204, g_205, g_206, g_207, g_208⟩ | ⟨rfl, g_209, g_210, g_211, g_212, g_213, g_214⟩ | ⟨rfl, g_215, g_216, g_217, g_218, g_219, g_220⟩ | ⟨rfl, g_221, g_222, g_223, g_224, g_225, g_226⟩ | ⟨rfl, g_227, g_228, g_229, g_230, g_231, g_232⟩ | ⟨rfl, g_233, g_234⟩
    · exfalso; omega
    · exfalso; omega
    · exfalso; omega
    · exfalso; omega
    · exfalso; omega
    · exfalso; omega
    · exfalso; omega
    · exfalso; omega
    · exfalso; omega
    · exfalso; omega
    · exfalso; omega
    · exfalso; omega
    · exfalso; omega
    · refine lv_icmp_eq (tgt := 1371) hx hb dL_law_889 (by decide) (fun c_235 => ?_) (fun c_235 => ?_)
      · refine lv_iinc (v := 6) (lv' := [(3, .int 6), (2, .ref m0), (1, .ref x0), (0, .ref b)]) hx hb dL_law_1371 hl (k := 0) rfl (by decide) (by decide) rfl (fun ls hl => ?_)
        refine lv_goto (tgt := 18) hx hb dL_law_1374 (by decide) ?_
        refine lv_iload_n hx hb dL_law_18 rfl (lv_at hl 0 rfl) ?_
        refine lv_aload_n hx hb dL_law_19 rfl (lv_at hl 3 rfl) ?_
        refine va_slen hx hb hX hbl hbA hS dL_law_20 ?_
        refine lv_topi (fun y_236 ey_236 => ?_)
        obtain rfl : y_236 = 6 := ey_236.trans (by decide)
        refine lv_bipush (v := 6) hx hb dL_law_21 (by decide) ?_
        refine lv_isub hx hb dL_law_23 ?_
        refine lv_topi (fun y_237 ey_237 => ?_)
        obtain rfl : y_237 = 0 := ey_237.trans (by decide)
        refine lv_icmp_gt (tgt := 1377) hx hb dL_law_24 (by decide) (fun c_238 => ?_) (fun c_238 => ?_)
        · refine lv_iconst (v := 1) hx hb dL_law_1377 (by decide) ?_
          refine va_forget (fun q hq => hS.2.2 q hq) ?_
          refine W.widen (k := 600000) (n := 7302250) (Nat.le_of_ble_eq_true rfl) (Nat.le_of_ble_eq_true rfl) ?_
          exact lw_ret hx hb hr hlocks dL_law_1378
        · exact absurd c_238 (by decide)
      · exact absurd c_235 (by decide)
  · refine lv_aload_n hx hb dL_law_875 rfl (lv_at hl 1 rfl) ?_
    refine lv_aload_n hx hb dL_law_876 rfl (lv_at hl 3 rfl) ?_
    refine lv_iload_n hx hb dL_law_877 rfl (lv_at hl 0 rfl) ?_
    refine lv_iconst (v := 1) hx hb dL_law_878 (by decide) ?_
    refine lv_iadd hx hb dL_law_879 ?_
    refine lv_topi (fun y_239 ey_239 => ?_)
    obtain rfl : y_239 = 1 := ey_239.trans (by decide)
    refine va_sld hx hb hX hbl hbA hS (zf_in (by decide) (by decide)) dL_law_880 ?_
    refine lv_topi (fun y_240 ey_240 => ?_)
    obtain rfl : a_3 = y_240 := ea_3.trans ey_240.symm
    refine lv_aload_n hx hb dL_law_881 rfl (lv_at hl 3 rfl) ?_
    refine lv_iload_n hx hb dL_law_882 rfl (lv_at hl 0 rfl) ?_
    refine lv_iconst (v := 2) hx hb dL_law_883 (by decide) ?_
    refine lv_iadd hx hb dL_law_884 ?_
    refine lv_topi (fun y_241 ey_241 => ?_)
    obtain rfl : y_241 = 2 := ey_241.trans (by decide)
    refine va_sld hx hb hX hbl hbA hS (zf_in (by decide) (by decide)) dL_law_885 ?_
    refine lv_topi (fun y_242 ey_242 => ?_)
    obtain rfl : a_6 = y_242 := ea_6.trans ey_242.symm
    skip
    refine zw_V (As := [.int a_3, .int a_6]) (rest := [.int (-6)]) (wr := [(mki, .inl (cI, 8, .inl (fun _ => 0))), (mpa, .inl (cI, 8, .inl (fun _ => 0))), (mta, .inl (cI, 8, .inl (fun _ => 0))), (mla, .inl (cI, 40, .inl (fun _ => 0))), (msl, .inl (cI, 40, .inl (fun _ => 0))), (mco, .inl (cI, 3, .inl (zL3 5 10 50))), (mhe, .inl (cI, 8, .inl (fun _ => 0))), (mso, .inl (cI, 8, .inl (fun _ => 0))), (msi, .inl (cI, 8, .inl (fun _ => 0))), (msh, .inl (cI, 8, .inl (fun _ => 0))), (mce, .inl (cJ, 1280, .inr (.inl (fun _ => 0)))), (mca, .inl (cJ, 160, .inr (.inl (fun _ => 0)))), (mwo, .inl (cI, 64, .inl fw_)), (mnu, .inl (cI, 10, .inl fn_)), (mte, .inl (cI, 3, .inl (fun _ => 0))), (mwa, .inl (cI, 130, .inl (fun _ => 0))), (mke, .inl (cI, 130, .inl (fun _ => 0))), (mma, .inl (cI, 3, .inl (fun _ => 0))), (mth, .inl (cI, 3, .inl (fun _ => 0))), (mtr, .inl (cI, 20, .inl (fun _ => 0)))]) ⟨hx, hb, hml, hown, hts⟩ (c_M_haste l D cI cJ cZ cP cS m0 mrf mki mpa mta mla msl mco mhe mso msi msh mce mca mwo mnu mte mwa mke mma mth mtr (a_3) (a_6)  H.size) (cwV 2 hts gq_98 rfl rfl rfl (by decide +kernel) ⟨Nat.le_of_ble_eq_true rfl, Nat.le_of_ble_eq_true rfl⟩) hK hN (hZ.kept hS) hP hD hS hA [0, 1] [2, 3, 4, 5, 6, 7, 8, 9, 10, 11, 12, 13, 14, 15, 16, 17, 18, 19, 20, 21] rfl rfl (by decide) (by decide) (by decide) (va_recv hK hP (ci := 8) (q0 := 0) rfl rfl) rfl hl.1 rfl (Nat.le_of_ble_eq_true rfl) dL_law_886 ⟨Nat.le_of_ble_eq_true rfl, Nat.le_of_ble_eq_true rfl⟩ (fun r_243 u_244 H locs hr_243 hP hD hS => ?_)
    replace hP : va_P D vwCl [(mki, .inl (cI, 8, .inl (fun _ => 0))), (mpa, .inl (cI, 8, .inl (fun _ => 0))), (mta, .inl (cI, 8, .inl (fun _ => 0))), (mla, .inl (cI, 40, .inl (fun _ => 0))), (msl, .inl (cI, 40, .inl (fun _ => 0))), (mco, .inl (cI, 3, .inl (zL3 5 10 50))), (mhe, .inl (cI, 8, .inl (fun _ => 0))), (mso, .inl (cI, 8, .inl (fun _ => 0))), (msi, .inl (cI, 8, .inl (fun _ => 0))), (msh, .inl (cI, 8, .inl (fun _ => 0))), (mce, .inl (cJ, 1280, .inr (.inl (fun _ => 0)))), (mca, .inl (cJ, 160, .inr (.inl (fun _ => 0)))), (mwo, .inl (cI, 64, .inl fw_)), (mnu, .inl (cI, 10, .inl fn_)), (mte, .inl (cI, 3, .inl (fun _ => 0))), (mwa, .inl (cI, 130, .inl (fun _ => 0))), (mke, .inl (cI, 130, .inl (fun _ => 0))), (mma, .inl (cI, 3, .inl (fun _ => 0))), (mth, .inl (cI, 3, .inl (fun _ => 0))), (mtr, .inl (cI, 20, .inl (fun _ => 0)))] H := hP
    replace hD : va_D _ [(mki, .inl (cI, 8, .inl (fun _ => 0))), (mpa, .inl (cI, 8, .inl (fun _ => 0))), (mta, .inl (cI, 8, .inl (fun _ => 0))), (mla, .inl (cI, 40, .inl (fun _ => 0))), (msl, .inl (cI, 40, .inl (fun _ => 0))), (mco, .inl (cI, 3, .inl (zL3 5 10 50))), (mhe, .inl (cI, 8, .inl (fun _ => 0))), (mso, .inl (cI, 8, .inl (fun _ => 0))), (msi, .inl (cI, 8, .inl (fun _ => 0))), (msh, .inl (cI, 8, .inl (fun _ => 0))), (mce, .inl (cJ, 1280, .inr (.inl (fun _ => 0)))), (mca, .inl (cJ, 160, .inr (.inl (fun _ => 0)))), (mwo, .inl (cI, 64, .inl fw_)), (mnu, .inl (cI, 10, .inl fn_)), (mte, .inl (cI, 3, .inl (fun _ => 0))), (mwa, .inl (cI, 130, .inl (fun _ => 0))), (mke, .inl (cI, 130, .inl (fun _ => 0))), (mma, .inl (cI, 3, .inl (fun _ => 0))), (mth, .inl (cI, 3, .inl (fun _ => 0))), (mtr, .inl (cI, 20, .inl (fun _ => 0)))] := hD
    rcases hr_243 with ⟨rfl, g_245⟩ | ⟨rfl, g_246, g_247, g_248⟩ | ⟨rfl, g_249, g_250, g_251, g_252⟩ | ⟨rfl, g_253, g_254, g_255, g_256, g_257, g_258⟩ | ⟨rfl, g_259, g_260, g_261, g_262, g_263, g_264⟩ | ⟨rfl, g_265, g_266, g_267, g_268, g_269, g_270⟩ | ⟨rfl, g_271, g_272, g_273, g_274, g_275, g_276⟩ | ⟨rfl, g_277, g_278, g_279, g_280, g_281, g_282⟩ | ⟨rfl, g_283, g_284, g_285, g_286, g_287, g_288⟩ | ⟨rfl, g_289, g_290, g_291, g_292, g_293, g_294⟩ | ⟨rfl, g_295, g_296, g_297, g_298, g_299, g_300⟩ | ⟨rfl, g_301, g_302, g_303, g_304, g_305, g_306⟩ | ⟨rfl, g_307, g_308, g_309, g_310, g_311, g_312⟩ | ⟨rfl, g_313, g_314⟩
    · exfalso; omega
    · refine lv_icmp_eq (tgt := 1371) hx hb dL_law_889 (by decide) (fun c_315 => ?_) (fun c_315 => ?_)
      · refine lv_iinc (v := 6) (lv' := [(3, .int 6), (2, .ref m0), (1, .ref x0), (0, .ref b)]) hx hb dL_law_1371 hl (k := 0) rfl (by decide) (by decide) rfl (fun ls hl => ?_)
        refine lv_goto (tgt := 18) hx hb dL_law_1374 (by decide) ?_
        refine lv_iload_n hx hb dL_law_18 rfl (lv_at hl 0 rfl) ?_
        refine lv_aload_n hx hb dL_law_19 rfl (lv_at hl 3 rfl) ?_
        refine va_slen hx hb hX hbl hbA hS dL_law_20 ?_
        refine lv_topi (fun y_316 ey_316 => ?_)
        obtain rfl : y_316 = 6 := ey_316.trans (by decide)
        refine lv_bipush (v := 6) hx hb dL_law_21 (by decide) ?_
        refine lv_isub hx hb dL_law_23 ?_
        refine lv_topi (fun y_317 ey_317 => ?_)
        obtain rfl : y_317 = 0 := ey_317.trans (by decide)
        refine lv_icmp_gt (tgt := 1377) hx hb dL_law_24 (by decide) (fun c_318 => ?_) (fun c_318 => ?_)
        · refine lv_iconst (v := 1) hx hb dL_law_1377 (by decide) ?_
          refine va_forget (fun q hq => hS.2.2 q hq) ?_
          refine W.widen (k := 600000) (n := 7302250) (Nat.le_of_ble_eq_true rfl) (Nat.le_of_ble_eq_true rfl) ?_
          exact lw_ret hx hb hr hlocks dL_law_1378
        · exact absurd c_318 (by decide)
      · exact absurd c_315 (by decide)
    · exfalso; omega
    · exfalso; omega
    · exfalso; omega
    · exfalso; omega
    · exfalso; omega
    · exfalso; omega
    · exfalso; omega
    · exfalso; omega
    · exfalso; omega
    · exfalso; omega
    · exfalso; omega
    · exfalso; omega
  · refine lv_aload_n hx hb dL_law_875 rfl (lv_at hl 1 rfl) ?_
    refine lv_aload_n hx hb dL_law_876 rfl (lv_at hl 3 rfl) ?_
    refine lv_iload_n hx hb dL_law_877 rfl (lv_at hl 0 rfl) ?_
    refine lv_iconst (v := 1) hx hb dL_law_878 (by decide) ?_
    refine lv_iadd hx hb dL_law_879 ?_
    refine lv_topi (fun y_319 ey_319 => ?_)
    obtain rfl : y_319 = 1 := ey_319.trans (by decide)
    refine va_sld hx hb hX hbl hbA hS (zf_in (by decide) (by decide)) dL_law_880 ?_
    refine lv_topi (fun y_320 ey_320 => ?_)
    obtain rfl : a_3 = y_320 := ea_3.trans ey_320.symm
    refine lv_aload_n hx hb dL_law_881 rfl (lv_at hl 3 rfl) ?_
    refine lv_iload_n hx hb dL_law_882 rfl (lv_at hl 0 rfl) ?_
    refine lv_iconst (v := 2) hx hb dL_law_883 (by decide) ?_
    refine lv_iadd hx hb dL_law_884 ?_
    refine lv_topi (fun y_321 ey_321 => ?_)
    obtain rfl : y_321 = 2 := ey_321.trans (by decide)
    refine va_sld hx hb hX hbl hbA hS (zf_in (by decide) (by decide)) dL_law_885 ?_
    refine lv_topi (fun y_322 ey_322 => ?_)
    obtain rfl : a_6 = y_322 := ea_6.trans ey_322.symm
    skip
    refine zw_V (As := [.int a_3, .int a_6]) (rest := [.int (-6)]) (wr := [(mki, .inl (cI, 8, .inl (fun _ => 0))), (mpa, .inl (cI, 8, .inl (fun _ => 0))), (mta, .inl (cI, 8, .inl (fun _ => 0))), (mla, .inl (cI, 40, .inl (fun _ => 0))), (msl, .inl (cI, 40, .inl (fun _ => 0))), (mco, .inl (cI, 3, .inl (zL3 5 10 50))), (mhe, .inl (cI, 8, .inl (fun _ => 0))), (mso, .inl (cI, 8, .inl (fun _ => 0))), (msi, .inl (cI, 8, .inl (fun _ => 0))), (msh, .inl (cI, 8, .inl (fun _ => 0))), (mce, .inl (cJ, 1280, .inr (.inl (fun _ => 0)))), (mca, .inl (cJ, 160, .inr (.inl (fun _ => 0)))), (mwo, .inl (cI, 64, .inl fw_)), (mnu, .inl (cI, 10, .inl fn_)), (mte, .inl (cI, 3, .inl (fun _ => 0))), (mwa, .inl (cI, 130, .inl (fun _ => 0))), (mke, .inl (cI, 130, .inl (fun _ => 0))), (mma, .inl (cI, 3, .inl (fun _ => 0))), (mth, .inl (cI, 3, .inl (fun _ => 0))), (mtr, .inl (cI, 20, .inl (fun _ => 0)))]) ⟨hx, hb, hml, hown, hts⟩ (c_M_haste l D cI cJ cZ cP cS m0 mrf mki mpa mta mla msl mco mhe mso msi msh mce mca mwo mnu mte mwa mke mma mth mtr (a_3) (a_6)  H.size) (cwV 2 hts gq_98 rfl rfl rfl (by decide +kernel) ⟨Nat.le_of_ble_eq_true rfl, Nat.le_of_ble_eq_true rfl⟩) hK hN (hZ.kept hS) hP hD hS hA [0, 1] [2, 3, 4, 5, 6, 7, 8, 9, 10, 11, 12, 13, 14, 15, 16, 17, 18, 19, 20, 21] rfl rfl (by decide) (by decide) (by decide) (va_recv hK hP (ci := 8) (q0 := 0) rfl rfl) rfl hl.1 rfl (Nat.le_of_ble_eq_true rfl) dL_law_886 ⟨Nat.le_of_ble_eq_true rfl, Nat.le_of_ble_eq_true rfl⟩ (fun r_323 u_324 H locs hr_323 hP hD hS => ?_)
    replace hP : va_P D vwCl [(mki, .inl (cI, 8, .inl (fun _ => 0))), (mpa, .inl (cI, 8, .inl (fun _ => 0))), (mta, .inl (cI, 8, .inl (fun _ => 0))), (mla, .inl (cI, 40, .inl (fun _ => 0))), (msl, .inl (cI, 40, .inl (fun _ => 0))), (mco, .inl (cI, 3, .inl (zL3 5 10 50))), (mhe, .inl (cI, 8, .inl (fun _ => 0))), (mso, .inl (cI, 8, .inl (fun _ => 0))), (msi, .inl (cI, 8, .inl (fun _ => 0))), (msh, .inl (cI, 8, .inl (fun _ => 0))), (mce, .inl (cJ, 1280, .inr (.inl (fun _ => 0)))), (mca, .inl (cJ, 160, .inr (.inl (fun _ => 0)))), (mwo, .inl (cI, 64, .inl fw_)), (mnu, .inl (cI, 10, .inl fn_)), (mte, .inl (cI, 3, .inl (fun _ => 0))), (mwa, .inl (cI, 130, .inl (fun _ => 0))), (mke, .inl (cI, 130, .inl (fun _ => 0))), (mma, .inl (cI, 3, .inl (fun _ => 0))), (mth, .inl (cI, 3, .inl (fun _ => 0))), (mtr, .inl (cI, 20, .inl (fun _ => 0)))] H := hP
    replace hD : va_D _ [(mki, .inl (cI, 8, .inl (fun _ => 0))), (mpa, .inl (cI, 8, .inl (fun _ => 0))), (mta, .inl (cI, 8, .inl (fun _ => 0))), (mla, .inl (cI, 40, .inl (fun _ => 0))), (msl, .inl (cI, 40, .inl (fun _ => 0))), (mco, .inl (cI, 3, .inl (zL3 5 10 50))), (mhe, .inl (cI, 8, .inl (fun _ => 0))), (mso, .inl (cI, 8, .inl (fun _ => 0))), (msi, .inl (cI, 8, .inl (fun _ => 0))), (msh, .inl (cI, 8, .inl (fun _ => 0))), (mce, .inl (cJ, 1280, .inr (.inl (fun _ => 0)))), (mca, .inl (cJ, 160, .inr (.inl (fun _ => 0)))), (mwo, .inl (cI, 64, .inl fw_)), (mnu, .inl (cI, 10, .inl fn_)), (mte, .inl (cI, 3, .inl (fun _ => 0))), (mwa, .inl (cI, 130, .inl (fun _ => 0))), (mke, .inl (cI, 130, .inl (fun _ => 0))), (mma, .inl (cI, 3, .inl (fun _ => 0))), (mth, .inl (cI, 3, .inl (fun _ => 0))), (mtr, .inl (cI, 20, .inl (fun _ => 0)))] := hD
    rcases hr_323 with ⟨rfl, g_325⟩ | ⟨rfl, g_326, g_327, g_328⟩ | ⟨rfl, g_329, g_330, g_331, g_332⟩ | ⟨rfl, g_333, g_334, g_335, g_336, g_337, g_338⟩ | ⟨rfl, g_339, g_340, g_341, g_342, g_343, g_344⟩ | ⟨rfl, g_345, g_346, g_347, g_348, g_349, g_350⟩ | ⟨rfl, g_351, g_352, g_353, g_354, g_355, g_356⟩ | ⟨rfl, g_357, g_358, g_359, g_360, g_361, g_362⟩ | ⟨rfl, g_363, g_364, g_365, g_366, g_367, g_368⟩ | ⟨rfl, g_369, g_370, g_371, g_372, g_373, g_374⟩ | ⟨rfl, g_375, g_376, g_377, g_378, g_379, g_380⟩ | ⟨rfl, g_381, g_382, g_383, g_384, g_385, g_386⟩ | ⟨rfl, g_387, g_388, g_389, g_390, g_391, g_392⟩ | ⟨rfl, g_393, g_394⟩
    · exfalso; omega
    · exfalso; omega
    · refine lv_icmp_eq (tgt := 1371) hx hb dL_law_889 (by decide) (fun c_395 => ?_) (fun c_395 => ?_)
      · refine lv_iinc (v := 6) (lv' := [(3, .int 6), (2, .ref m0), (1, .ref x0), (0, .ref b)]) hx hb dL_law_1371 hl (k := 0) rfl (by decide) (by decide) rfl (fun ls hl => ?_)
        refine lv_goto (tgt := 18) hx hb dL_law_1374 (by decide) ?_
        refine lv_iload_n hx hb dL_law_18 rfl (lv_at hl 0 rfl) ?_
        refine lv_aload_n hx hb dL_law_19 rfl (lv_at hl 3 rfl) ?_
        refine va_slen hx hb hX hbl hbA hS dL_law_20 ?_
        refine lv_topi (fun y_396 ey_396 => ?_)
        obtain rfl : y_396 = 6 := ey_396.trans (by decide)
        refine lv_bipush (v := 6) hx hb dL_law_21 (by decide) ?_
        refine lv_isub hx hb dL_law_23 ?_
        refine lv_topi (fun y_397 ey_397 => ?_)
        obtain rfl : y_397 = 0 := ey_397.trans (by decide)
        refine lv_icmp_gt (tgt := 1377) hx hb dL_law_24 (by decide) (fun c_398 => ?_) (fun c_398 => ?_)
        · refine lv_iconst (v := 1) hx hb dL_law_1377 (by decide) ?_
          refine va_forget (fun q hq => hS.2.2 q hq) ?_
          refine W.widen (k := 600000) (n := 7302250) (Nat.le_of_ble_eq_true rfl) (Nat.le_of_ble_eq_true rfl) ?_
          exact lw_ret hx hb hr hlocks dL_law_1378
        · exact absurd c_398 (by decide)
      · exact absurd c_395 (by decide)
    · exfalso; omega
    · exfalso; omega
    · exfalso; omega
    · exfalso; omega
    · exfalso; omega
    · exfalso; omega
    · exfalso; omega
    · exfalso; omega
    · exfalso; omega
    · exfalso; omega
    · exfalso; omega
  · refine lv_aload_n hx hb dL_law_875 rfl (lv_at hl 1 rfl) ?_
    refine lv_aload_n hx hb dL_law_876 rfl (lv_at hl 3 rfl) ?_
    refine lv_iload_n hx hb dL_law_877 rfl (lv_at hl 0 rfl) ?_
    refine lv_iconst (v := 1) hx hb dL_law_878 (by decide) ?_
    refine lv_iadd hx hb dL_law_879 ?_
    refine lv_topi (fun y_399 ey_399 => ?_)
    obtain rfl : y_399 = 1 := ey_399.trans (by decide)
    refine va_sld hx hb hX hbl hbA hS (zf_in (by decide) (by decide)) dL_law_880 ?_
    refine lv_topi (fun y_400 ey_400 => ?_)
    obtain rfl : a_3 = y_400 := ea_3.trans ey_400.symm
    refine lv_aload_n hx hb dL_law_881 rfl (lv_at hl 3 rfl) ?_
    refine lv_iload_n hx hb dL_law_882 rfl (lv_at hl 0 rfl) ?_
    refine lv_iconst (v := 2) hx hb dL_law_883 (by decide) ?_
    refine lv_iadd hx hb dL_law_884 ?_
    refine lv_topi (fun y_401 ey_401 => ?_)
    obtain rfl : y_401 = 2 := ey_401.trans (by decide)
    refine va_sld hx hb hX hbl hbA hS (zf_in (by decide) (by decide)) dL_law_885 ?_
    refine lv_topi (fun y_402 ey_402 => ?_)
    obtain rfl : a_6 = y_402 := ea_6.trans ey_402.symm
    skip
    refine zw_V (As := [.int a_3, .int a_6]) (rest := [.int 0]) (wr := [(mki, .inl (cI, 8, .inl (fun _ => 0))), (mpa, .inl (cI, 8, .inl (fun _ => 0))), (mta, .inl (cI, 8, .inl (fun _ => 0))), (mla, .inl (cI, 40, .inl (fun _ => 0))), (msl, .inl (cI, 40, .inl (fun _ => 0))), (mco, .inl (cI, 3, .inl (zL3 5 10 50))), (mhe, .inl (cI, 8, .inl (fun _ => 0))), (mso, .inl (cI, 8, .inl (fun _ => 0))), (msi, .inl (cI, 8, .inl (fun _ => 0))), (msh, .inl (cI, 8, .inl (fun _ => 0))), (mce, .inl (cJ, 1280, .inr (.inl (fun _ => 0)))), (mca, .inl (cJ, 160, .inr (.inl (fun _ => 0)))), (mwo, .inl (cI, 64, .inl fw_)), (mnu, .inl (cI, 10, .inl fn_)), (mte, .inl (cI, 3, .inl (fun _ => 0))), (mwa, .inl (cI, 130, .inl (fun _ => 0))), (mke, .inl (cI, 130, .inl (fun _ => 0))), (mma, .inl (cI, 3, .inl (fun _ => 0))), (mth, .inl (cI, 3, .inl (fun _ => 0))), (mtr, .inl (cI, 20, .inl (fun _ => 0)))]) ⟨hx, hb, hml, hown, hts⟩ (c_M_haste l D cI cJ cZ cP cS m0 mrf mki mpa mta mla msl mco mhe mso msi msh mce mca mwo mnu mte mwa mke mma mth mtr (a_3) (a_6)  H.size) (cwV 2 hts gq_98 rfl rfl rfl (by decide +kernel) ⟨Nat.le_of_ble_eq_true rfl, Nat.le_of_ble_eq_true rfl⟩) hK hN (hZ.kept hS) hP hD hS hA [0, 1] [2, 3, 4, 5, 6, 7, 8, 9, 10, 11, 12, 13, 14, 15, 16, 17, 18, 19, 20, 21] rfl rfl (by decide) (by decide) (by decide) (va_recv hK hP (ci := 8) (q0 := 0) rfl rfl) rfl hl.1 rfl (Nat.le_of_ble_eq_true rfl) dL_law_886 ⟨Nat.le_of_ble_eq_true rfl, Nat.le_of_ble_eq_true rfl⟩ (fun r_403 u_404 H locs hr_403 hP hD hS => ?_)
    replace hP : va_P D vwCl [(mki, .inl (cI, 8, .inl (fun _ => 0))), (mpa, .inl (cI, 8, .inl (fun _ => 0))), (mta, .inl (cI, 8, .inl (fun _ => 0))), (mla, .inl (cI, 40, .inl (fun _ => 0))), (msl, .inl (cI, 40, .inl (fun _ => 0))), (mco, .inl (cI, 3, .inl (zL3 5 10 50))), (mhe, .inl (cI, 8, .inl (fun _ => 0))), (mso, .inl (cI, 8, .inl (fun _ => 0))), (msi, .inl (cI, 8, .inl (fun _ => 0))), (msh, .inl (cI, 8, .inl (fun _ => 0))), (mce, .inl (cJ, 1280, .inr (.inl (fun _ => 0)))), (mca, .inl (cJ, 160, .inr (.inl (fun _ => 0)))), (mwo, .inl (cI, 64, .inl fw_)), (mnu, .inl (cI, 10, .inl fn_)), (mte, .inl (cI, 3, .inl (fun _ => 0))), (mwa, .inl (cI, 130, .inl (fun _ => 0))), (mke, .inl (cI, 130, .inl (fun _ => 0))), (mma, .inl (cI, 3, .inl (fun _ => 0))), (mth, .inl (cI, 3, .inl (fun _ => 0))), (mtr, .inl (cI, 20, .inl (fun _ => 0)))] H := hP
    replace hD : va_D _ [(mki, .inl (cI, 8, .inl (fun _ => 0))), (mpa, .inl (cI, 8, .inl (fun _ => 0))), (mta, .inl (cI, 8, .inl (fun _ => 0))), (mla, .inl (cI, 40, .inl (fun _ => 0))), (msl, .inl (cI, 40, .inl (fun _ => 0))), (mco, .inl (cI, 3, .inl (zL3 5 10 50))), (mhe, .inl (cI, 8, .inl (fun _ => 0))), (mso, .inl (cI, 8, .inl (fun _ => 0))), (msi, .inl (cI, 8, .inl (fun _ => 0))), (msh, .inl (cI, 8, .inl (fun _ => 0))), (mce, .inl (cJ, 1280, .inr (.inl (fun _ => 0)))), (mca, .inl (cJ, 160, .inr (.inl (fun _ => 0)))), (mwo, .inl (cI, 64, .inl fw_)), (mnu, .inl (cI, 10, .inl fn_)), (mte, .inl (cI, 3, .inl (fun _ => 0))), (mwa, .inl (cI, 130, .inl (fun _ => 0))), (mke, .inl (cI, 130, .inl (fun _ => 0))), (mma, .inl (cI, 3, .inl (fun _ => 0))), (mth, .inl (cI, 3, .inl (fun _ => 0))), (mtr, .inl (cI, 20, .inl (fun _ => 0)))] := hD
    rcases hr_403 with ⟨rfl, g_405⟩ | ⟨rfl, g_406, g_407, g_408⟩ | ⟨rfl, g_409, g_410, g_411, g_412⟩ | ⟨rfl, g_413, g_414, g_415, g_416, g_417, g_418⟩ | ⟨rfl, g_419, g_420, g_421, g_422, g_423, g_424⟩ | ⟨rfl, g_425, g_426, g_427, g_428, g_429, g_430⟩ | ⟨rfl, g_431, g_432, g_433, g_434, g_435, g_436⟩ | ⟨rfl, g_437, g_438, g_439, g_440, g_441, g_442⟩ | ⟨rfl, g_443, g_444, g_445, g_446, g_447, g_448⟩ | ⟨rfl, g_449, g_450, g_451, g_452, g_453, g_454⟩ | ⟨rfl, g_455, g_456, g_457, g_458, g_459, g_460⟩ | ⟨rfl, g_461, g_462, g_463, g_464, g_465, g_466⟩ | ⟨rfl, g_467, g_468, g_469, g_470, g_471, g_472⟩ | ⟨rfl, g_473, g_474⟩
    · exfalso; omega
    · exfalso; omega
    · exfalso; omega
    · refine lv_icmp_eq (tgt := 1371) hx hb dL_law_889 (by decide) (fun c_475 => ?_) (fun c_475 => ?_)
      · refine lv_iinc (v := 6) (lv' := [(3, .int 6), (2, .ref m0), (1, .ref x0), (0, .ref b)]) hx hb dL_law_1371 hl (k := 0) rfl (by decide) (by decide) rfl (fun ls hl => ?_)
        refine lv_goto (tgt := 18) hx hb dL_law_1374 (by decide) ?_
        refine lv_iload_n hx hb dL_law_18 rfl (lv_at hl 0 rfl) ?_
        refine lv_aload_n hx hb dL_law_19 rfl (lv_at hl 3 rfl) ?_
        refine va_slen hx hb hX hbl hbA hS dL_law_20 ?_
        refine lv_topi (fun y_476 ey_476 => ?_)
        obtain rfl : y_476 = 6 := ey_476.trans (by decide)
        refine lv_bipush (v := 6) hx hb dL_law_21 (by decide) ?_
        refine lv_isub hx hb dL_law_23 ?_
        refine lv_topi (fun y_477 ey_477 => ?_)
        obtain rfl : y_477 = 0 := ey_477.trans (by decide)
        refine lv_icmp_gt (tgt := 1377) hx hb dL_law_24 (by decide) (fun c_478 => ?_) (fun c_478 => ?_)
        · refine lv_iconst (v := 1) hx hb dL_law_1377 (by decide) ?_
          refine va_forget (fun q hq => hS.2.2 q hq) ?_
          refine W.widen (k := 600000) (n := 7302250) (Nat.le_of_ble_eq_true rfl) (Nat.le_of_ble_eq_true rfl) ?_
          exact lw_ret hx hb hr hlocks dL_law_1378
        · exact absurd c_478 (by decide)
      · exact absurd c_475 (by decide)
    · exfalso; omega
    · exfalso; omega
    · exfalso; omega
    · exfalso; omega
    · exfalso; omega
    · exfalso; omega
    · exfalso; omega
    · exfalso; omega
    · exfalso; omega
    · exfalso; omega
  · refine lv_aload_n hx hb dL_law_875 rfl (lv_at hl 1 rfl) ?_
    refine lv_aload_n hx hb dL_law_876 rfl (lv_at hl 3 rfl) ?_
    refine lv_iload_n hx hb dL_law_877 rfl (lv_at hl 0 rfl) ?_
    refine lv_iconst (v := 1) hx hb dL_law_878 (by decide) ?_
    refine lv_iadd hx hb dL_law_879 ?_
    refine lv_topi (fun y_479 ey_479 => ?_)
    obtain rfl : y_479 = 1 := ey_479.trans (by decide)
    refine va_sld hx hb hX hbl hbA hS (zf_in (by decide) (by decide)) dL_law_880 ?_
    refine lv_topi (fun y_480 ey_480 => ?_)
    obtain rfl : a_3 = y_480 := ea_3.trans ey_480.symm
    refine lv_aload_n hx hb dL_law_881 rfl (lv_at hl 3 rfl) ?_
    refine lv_iload_n hx hb dL_law_882 rfl (lv_at hl 0 rfl) ?_
    refine lv_iconst (v := 2) hx hb dL_law_883 (by decide) ?_
    refine lv_iadd hx hb dL_law_884 ?_
    refine lv_topi (fun y_481 ey_481 => ?_)
    obtain rfl : y_481 = 2 := ey_481.trans (by decide)
    refine va_sld hx hb hX hbl hbA hS (zf_in (by decide) (by decide)) dL_law_885 ?_
    refine lv_topi (fun y_482 ey_482 => ?_)
    obtain rfl : a_6 = y_482 := ea_6.trans ey_482.symm
    skip
    refine zw_V (As := [.int a_3, .int a_6]) (rest := [.int 0]) (wr := [(mki, .inl (cI, 8, .inl (fun _ => 0))), (mpa, .inl (cI, 8, .inl (fun _ => 0))), (mta, .inl (cI, 8, .inl (fun _ => 0))), (mla, .inl (cI, 40, .inl (fun _ => 0))), (msl, .inl (cI, 40, .inl (fun _ => 0))), (mco, .inl (cI, 3, .inl (zL3 5 10 50))), (mhe, .inl (cI, 8, .inl (fun _ => 0))), (mso, .inl (cI, 8, .inl (fun _ => 0))), (msi, .inl (cI, 8, .inl (fun _ => 0))), (msh, .inl (cI, 8, .inl (fun _ => 0))), (mce, .inl (cJ, 1280, .inr (.inl (fun _ => 0)))), (mca, .inl (cJ, 160, .inr (.inl (fun _ => 0)))), (mwo, .inl (cI, 64, .inl fw_)), (mnu, .inl (cI, 10, .inl fn_)), (mte, .inl (cI, 3, .inl (fun _ => 0))), (mwa, .inl (cI, 130, .inl (fun _ => 0))), (mke, .inl (cI, 130, .inl (fun _ => 0))), (mma, .inl (cI, 3, .inl (fun _ => 0))), (mth, .inl (cI, 3, .inl (fun _ => 0))), (mtr, .inl (cI, 20, .inl (fun _ => 0)))]) ⟨hx, hb, hml, hown, hts⟩ (c_M_haste l D cI cJ cZ cP cS m0 mrf mki mpa mta mla msl mco mhe mso msi msh mce mca mwo mnu mte mwa mke mma mth mtr (a_3) (a_6)  H.size) (cwV 2 hts gq_98 rfl rfl rfl (by decide +kernel) ⟨Nat.le_of_ble_eq_true rfl, Nat.le_of_ble_eq_true rfl⟩) hK hN (hZ.kept hS) hP hD hS hA [0, 1] [2, 3, 4, 5, 6, 7, 8, 9, 10, 11, 12, 13, 14, 15, 16, 17, 18, 19, 20, 21] rfl rfl (by decide) (by decide) (by decide) (va_recv hK hP (ci := 8) (q0 := 0) rfl rfl) rfl hl.1 rfl (Nat.le_of_ble_eq_true rfl) dL_law_886 ⟨Nat.le_of_ble_eq_true rfl, Nat.le_of_ble_eq_true rfl⟩ (fun r_483 u_484 H locs hr_483 hP hD hS => ?_)
    replace hP : va_P D vwCl [(mki, .inl (cI, 8, .inl (fun _ => 0))), (mpa, .inl (cI, 8, .inl (fun _ => 0))), (mta, .inl (cI, 8, .inl (fun _ => 0))), (mla, .inl (cI, 40, .inl (fun _ => 0))), (msl, .inl (cI, 40, .inl (fun _ => 0))), (mco, .inl (cI, 3, .inl (zL3 5 10 50))), (mhe, .inl (cI, 8, .inl (fun _ => 0))), (mso, .inl (cI, 8, .inl (fun _ => 0))), (msi, .inl (cI, 8, .inl (fun _ => 0))), (msh, .inl (cI, 8, .inl (fun _ => 0))), (mce, .inl (cJ, 1280, .inr (.inl (fun _ => 0)))), (mca, .inl (cJ, 160, .inr (.inl (fun _ => 0)))), (mwo, .inl (cI, 64, .inl fw_)), (mnu, .inl (cI, 10, .inl fn_)), (mte, .inl (cI, 3, .inl (fun _ => 0))), (mwa, .inl (cI, 130, .inl (fun _ => 0))), (mke, .inl (cI, 130, .inl (fun _ => 0))), (mma, .inl (cI, 3, .inl (fun _ => 0))), (mth, .inl (cI, 3, .inl (fun _ => 0))), (mtr, .inl (cI, 20, .inl (fun _ => 0)))] H := hP
    replace hD : va_D _ [(mki, .inl (cI, 8, .inl (fun _ => 0))), (mpa, .inl (cI, 8, .inl (fun _ => 0))), (mta, .inl (cI, 8, .inl (fun _ => 0))), (mla, .inl (cI, 40, .inl (fun _ => 0))), (msl, .inl (cI, 40, .inl (fun _ => 0))), (mco, .inl (cI, 3, .inl (zL3 5 10 50))), (mhe, .inl (cI, 8, .inl (fun _ => 0))), (mso, .inl (cI, 8, .inl (fun _ => 0))), (msi, .inl (cI, 8, .inl (fun _ => 0))), (msh, .inl (cI, 8, .inl (fun _ => 0))), (mce, .inl (cJ, 1280, .inr (.inl (fun _ => 0)))), (mca, .inl (cJ, 160, .inr (.inl (fun _ => 0)))), (mwo, .inl (cI, 64, .inl fw_)), (mnu, .inl (cI, 10, .inl fn_)), (mte, .inl (cI, 3, .inl (fun _ => 0))), (mwa, .inl (cI, 130, .inl (fun _ => 0))), (mke, .inl (cI, 130, .inl (fun _ => 0))), (mma, .inl (cI, 3, .inl (fun _ => 0))), (mth, .inl (cI, 3, .inl (fun _ => 0))), (mtr, .inl (cI, 20, .inl (fun _ => 0)))] := hD
    rcases hr_483 with ⟨rfl, g_485⟩ | ⟨rfl, g_486, g_487, g_488⟩ | ⟨rfl, g_489, g_490, g_491, g_492⟩ | ⟨rfl, g_493, g_494, g_495, g_496, g_497, g_498⟩ | ⟨rfl, g_499, g_500, g_501, g_502, g_503, g_504⟩ | ⟨rfl, g_505, g_506, g_507, g_508, g_509, g_510⟩ | ⟨rfl, g_511, g_512, g_513, g_514, g_515, g_516⟩ | ⟨rfl, g_517, g_518, g_519, g_520, g_521, g_522⟩ | ⟨rfl, g_523, g_524, g_525, g_526, g_527, g_528⟩ | ⟨rfl, g_529, g_530, g_531, g_532, g_533, g_534⟩ | ⟨rfl, g_535, g_536, g_537, g_538, g_539, g_540⟩ | ⟨rfl, g_541, g_542, g_543, g_544, g_545, g_546⟩ | ⟨rfl, g_547, g_548, g_549, g_550, g_551, g_552⟩ | ⟨rfl, g_553, g_554⟩
    · exfalso; omega
    · exfalso; omega
    · exfalso; omega
    · exfalso; omega
    · refine lv_icmp_eq (tgt := 1371) hx hb dL_law_889 (by decide) (fun c_555 => ?_) (fun c_555 => ?_)
      · refine lv_iinc (v := 6) (lv' := [(3, .int 6), (2, .ref m0), (1, .ref x0), (0, .ref b)]) hx hb dL_law_1371 hl (k := 0) rfl (by decide) (by decide) rfl (fun ls hl => ?_)
        refine lv_goto (tgt := 18) hx hb dL_law_1374 (by decide) ?_
        refine lv_iload_n hx hb dL_law_18 rfl (lv_at hl 0 rfl) ?_
        refine lv_aload_n hx hb dL_law_19 rfl (lv_at hl 3 rfl) ?_
        refine va_slen hx hb hX hbl hbA hS dL_law_20 ?_
        refine lv_topi (fun y_556 ey_556 => ?_)
        obtain rfl : y_556 = 6 := ey_556.trans (by decide)
        refine lv_bipush (v := 6) hx hb dL_law_21 (by decide) ?_
        refine lv_isub hx hb dL_law_23 ?_
        refine lv_topi (fun y_557 ey_557 => ?_)
        obtain rfl : y_557 = 0 := ey_557.trans (by decide)
        refine lv_icmp_gt (tgt := 1377) hx hb dL_law_24 (by decide) (fun c_558 => ?_) (fun c_558 => ?_)
        · refine lv_iconst (v := 1) hx hb dL_law_1377 (by decide) ?_
          refine va_forget (fun q hq => hS.2.2 q hq) ?_
          refine W.widen (k := 600000) (n := 7302250) (Nat.le_of_ble_eq_true rfl) (Nat.le_of_ble_eq_true rfl) ?_
          exact lw_ret hx hb hr hlocks dL_law_1378
        · exact absurd c_558 (by decide)
      · exact absurd c_555 (by decide)
    · exfalso; omega
    · exfalso; omega
    · exfalso; omega
    · exfalso; omega
    · exfalso; omega
    · exfalso; omega
    · exfalso; omega
    · exfalso; omega
    · exfalso; omega
  · refine lv_aload_n hx hb dL_law_875 rfl (lv_at hl 1 rfl) ?_
    refine lv_aload_n hx hb dL_law_876 rfl (lv_at hl 3 rfl) ?_
    refine lv_iload_n hx hb dL_law_877 rfl (lv_at hl 0 rfl) ?_
    refine lv_iconst (v := 1) hx hb dL_law_878 (by decide) ?_
    refine lv_iadd hx hb dL_law_879 ?_
    refine lv_topi (fun y_559 ey_559 => ?_)
    obtain rfl : y_559 = 1 := ey_559.trans (by decide)
    refine va_sld hx hb hX hbl hbA hS (zf_in (by decide) (by decide)) dL_law_880 ?_
    refine lv_topi (fun y_560 ey_560 => ?_)
    obtain rfl : a_3 = y_560 := ea_3.trans ey_560.symm
    refine lv_aload_n hx hb dL_law_881 rfl (lv_at hl 3 rfl) ?_
    refine lv_iload_n hx hb dL_law_882 rfl (lv_at hl 0 rfl) ?_
    refine lv_iconst (v := 2) hx hb dL_law_883 (by decide) ?_
    refine lv_iadd hx hb dL_law_884 ?_
    refine lv_topi (fun y_561 ey_561 => ?_)
    obtain rfl : y_561 = 2 := ey_561.trans (by decide)
    refine va_sld hx hb hX hbl hbA hS (zf_in (by decide) (by decide)) dL_law_885 ?_
    refine lv_topi (fun y_562 ey_562 => ?_)
    obtain rfl : a_6 = y_562 := ea_6.trans ey_562.symm
    skip
    refine zw_V (As := [.int a_3, .int a_6]) (rest := [.int 0]) (wr := [(mki, .inl (cI, 8, .inl (fun _ => 0))), (mpa, .inl (cI, 8, .inl (fun _ => 0))), (mta, .inl (cI, 8, .inl (fun _ => 0))), (mla, .inl (cI, 40, .inl (fun _ => 0))), (msl, .inl (cI, 40, .inl (fun _ => 0))), (mco, .inl (cI, 3, .inl (zL3 5 10 50))), (mhe, .inl (cI, 8, .inl (fun _ => 0))), (mso, .inl (cI, 8, .inl (fun _ => 0))), (msi, .inl (cI, 8, .inl (fun _ => 0))), (msh, .inl (cI, 8, .inl (fun _ => 0))), (mce, .inl (cJ, 1280, .inr (.inl (fun _ => 0)))), (mca, .inl (cJ, 160, .inr (.inl (fun _ => 0)))), (mwo, .inl (cI, 64, .inl fw_)), (mnu, .inl (cI, 10, .inl fn_)), (mte, .inl (cI, 3, .inl (fun _ => 0))), (mwa, .inl (cI, 130, .inl (fun _ => 0))), (mke, .inl (cI, 130, .inl (fun _ => 0))), (mma, .inl (cI, 3, .inl (fun _ => 0))), (mth, .inl (cI, 3, .inl (fun _ => 0))), (mtr, .inl (cI, 20, .inl (fun _ => 0)))]) ⟨hx, hb, hml, hown, hts⟩ (c_M_haste l D cI cJ cZ cP cS m0 mrf mki mpa mta mla msl mco mhe mso msi msh mce mca mwo mnu mte mwa mke mma mth mtr (a_3) (a_6)  H.size) (cwV 2 hts gq_98 rfl rfl rfl (by decide +kernel) ⟨Nat.le_of_ble_eq_true rfl, Nat.le_of_ble_eq_true rfl⟩) hK hN (hZ.kept hS) hP hD hS hA [0, 1] [2, 3, 4, 5, 6, 7, 8, 9, 10, 11, 12, 13, 14, 15, 16, 17, 18, 19, 20, 21] rfl rfl (by decide) (by decide) (by decide) (va_recv hK hP (ci := 8) (q0 := 0) rfl rfl) rfl hl.1 rfl (Nat.le_of_ble_eq_true rfl) dL_law_886 ⟨Nat.le_of_ble_eq_true rfl, Nat.le_of_ble_eq_true rfl⟩ (fun r_563 u_564 H locs hr_563 hP hD hS => ?_)
    replace hP : va_P D vwCl [(mki, .inl (cI, 8, .inl (fun _ => 0))), (mpa, .inl (cI, 8, .inl (fun _ => 0))), (mta, .inl (cI, 8, .inl (fun _ => 0))), (mla, .inl (cI, 40, .inl (fun _ => 0))), (msl, .inl (cI, 40, .inl (fun _ => 0))), (mco, .inl (cI, 3, .inl (zL3 5 10 50))), (mhe, .inl (cI, 8, .inl (fun _ => 0))), (mso, .inl (cI, 8, .inl (fun _ => 0))), (msi, .inl (cI, 8, .inl (fun _ => 0))), (msh, .inl (cI, 8, .inl (fun _ => 0))), (mce, .inl (cJ, 1280, .inr (.inl (fun _ => 0)))), (mca, .inl (cJ, 160, .inr (.inl (fun _ => 0)))), (mwo, .inl (cI, 64, .inl fw_)), (mnu, .inl (cI, 10, .inl fn_)), (mte, .inl (cI, 3, .inl (fun _ => 0))), (mwa, .inl (cI, 130, .inl (fun _ => 0))), (mke, .inl (cI, 130, .inl (fun _ => 0))), (mma, .inl (cI, 3, .inl (fun _ => 0))), (mth, .inl (cI, 3, .inl (fun _ => 0))), (mtr, .inl (cI, 20, .inl (fun _ => 0)))] H := hP
    replace hD : va_D _ [(mki, .inl (cI, 8, .inl (fun _ => 0))), (mpa, .inl (cI, 8, .inl (fun _ => 0))), (mta, .inl (cI, 8, .inl (fun _ => 0))), (mla, .inl (cI, 40, .inl (fun _ => 0))), (msl, .inl (cI, 40, .inl (fun _ => 0))), (mco, .inl (cI, 3, .inl (zL3 5 10 50))), (mhe, .inl (cI, 8, .inl (fun _ => 0))), (mso, .inl (cI, 8, .inl (fun _ => 0))), (msi, .inl (cI, 8, .inl (fun _ => 0))), (msh, .inl (cI, 8, .inl (fun _ => 0))), (mce, .inl (cJ, 1280, .inr (.inl (fun _ => 0)))), (mca, .inl (cJ, 160, .inr (.inl (fun _ => 0)))), (mwo, .inl (cI, 64, .inl fw_)), (mnu, .inl (cI, 10, .inl fn_)), (mte, .inl (cI, 3, .inl (fun _ => 0))), (mwa, .inl (cI, 130, .inl (fun _ => 0))), (mke, .inl (cI, 130, .inl (fun _ => 0))), (mma, .inl (cI, 3, .inl (fun _ => 0))), (mth, .inl (cI, 3, .inl (fun _ => 0))), (mtr, .inl (cI, 20, .inl (fun _ => 0)))] := hD
    rcases hr_563 with ⟨rfl, g_565⟩ | ⟨rfl, g_566, g_567, g_568⟩ | ⟨rfl, g_569, g_570, g_571, g_572⟩ | ⟨rfl, g_573, g_574, g_575, g_576, g_577, g_578⟩ | ⟨rfl, g_579, g_580, g_581, g_582, g_583, g_584⟩ | ⟨rfl, g_585, g_586, g_587, g_588, g_589, g_590⟩ | ⟨rfl, g_591, g_592, g_593, g_594, g_595, g_596⟩ | ⟨rfl, g_597, g_598, g_599, g_600, g_601, g_602⟩ | ⟨rfl, g_603, g_604, g_605, g_606, g_607, g_608⟩ | ⟨rfl, g_609, g_610, g_611, g_612, g_613, g_614⟩ | ⟨rfl, g_615, g_616, g_617, g_618, g_619, g_620⟩ | ⟨rfl, g_621, g_622, g_623, g_624, g_625, g_626⟩ | ⟨rfl, g_627, g_628, g_629, g_630, g_631, g_632⟩ | ⟨rfl, g_633, g_634⟩
    · exfalso; omega
    · exfalso; omega
    · exfalso; omega
    · exfalso; omega
    · exfalso; omega
    · refine lv_icmp_eq (tgt := 1371) hx hb dL_law_889 (by decide) (fun c_635 => ?_) (fun c_635 => ?_)
      · refine lv_iinc (v := 6) (lv' := [(3, .int 6), (2, .ref m0), (1, .ref x0), (0, .ref b)]) hx hb dL_law_1371 hl (k := 0) rfl (by decide) (by decide) rfl (fun ls hl => ?_)
        refine lv_goto (tgt := 18) hx hb dL_law_1374 (by decide) ?_
        refine lv_iload_n hx hb dL_law_18 rfl (lv_at hl 0 rfl) ?_
        refine lv_aload_n hx hb dL_law_19 rfl (lv_at hl 3 rfl) ?_
        refine va_slen hx hb hX hbl hbA hS dL_law_20 ?_
        refine lv_topi (fun y_636 ey_636 => ?_)
        obtain rfl : y_636 = 6 := ey_636.trans (by decide)
        refine lv_bipush (v := 6) hx hb dL_law_21 (by decide) ?_
        refine lv_isub hx hb dL_law_23 ?_
        refine lv_topi (fun y_637 ey_637 => ?_)
        obtain rfl : y_637 = 0 := ey_637.trans (by decide)
        refine lv_icmp_gt (tgt := 1377) hx hb dL_law_24 (by decide) (fun c_638 => ?_) (fun c_638 => ?_)
        · refine lv_iconst (v := 1) hx hb dL_law_1377 (by decide) ?_
          refine va_forget (fun q hq => hS.2.2 q hq) ?_
          refine W.widen (k := 600000) (n := 7302250) (Nat.le_of_ble_eq_true rfl) (Nat.le_of_ble_eq_true rfl) ?_
          exact lw_ret hx hb hr hlocks dL_law_1378
        · exact absurd c_638 (by decide)
      · exact absurd c_635 (by decide)
    · exfalso; omega
    · exfalso; omega
    · exfalso; omega
    · exfalso; omega
    · exfalso; omega
    · exfalso; omega
    · exfalso; omega
    · exfalso; omega
  · refine lv_aload_n hx hb dL_law_875 rfl (lv_at hl 1 rfl) ?_
    refine lv_aload_n hx hb dL_law_876 rfl (lv_at hl 3 rfl) ?_
    refine lv_iload_n hx hb dL_law_877 rfl (lv_at hl 0 rfl) ?_
    refine lv_iconst (v := 1) hx hb dL_law_878 (by decide) ?_
    refine lv_iadd hx hb dL_law_879 ?_
    refine lv_topi (fun y_639 ey_639 => ?_)
    obtain rfl : y_639 = 1 := ey_639.trans (by decide)
    refine va_sld hx hb hX hbl hbA hS (zf_in (by decide) (by decide)) dL_law_880 ?_
    refine lv_topi (fun y_640 ey_640 => ?_)
    obtain rfl : a_3 = y_640 := ea_3.trans ey_640.symm
    refine lv_aload_n hx hb dL_law_881 rfl (lv_at hl 3 rfl) ?_
    refine lv_iload_n hx hb dL_law_882 rfl (lv_at hl 0 rfl) ?_
    refine lv_iconst (v := 2) hx hb dL_law_883 (by decide) ?_
    refine lv_iadd hx hb dL_law_884 ?_
    refine lv_topi (fun y_641 ey_641 => ?_)
    obtain rfl : y_641 = 2 := ey_641.trans (by decide)
    refine va_sld hx hb hX hbl hbA hS (zf_in (by decide) (by decide)) dL_law_885 ?_
    refine lv_topi (fun y_642 ey_642 => ?_)
    obtain rfl : a_6 = y_642 := ea_6.trans ey_642.symm
    skip
    refine zw_V (As := [.int a_3, .int a_6]) (rest := [.int 0]) (wr := [(mki, .inl (cI, 8, .inl (fun _ => 0))), (mpa, .inl (cI, 8, .inl (fun _ => 0))), (mta, .inl (cI, 8, .inl (fun _ => 0))), (mla, .inl (cI, 40, .inl (fun _ => 0))), (msl, .inl (cI, 40, .inl (fun _ => 0))), (mco, .inl (cI, 3, .inl (zL3 5 10 50))), (mhe, .inl (cI, 8, .inl (fun _ => 0))), (mso, .inl (cI, 8, .inl (fun _ => 0))), (msi, .inl (cI, 8, .inl (fun _ => 0))), (msh, .inl (cI, 8, .inl (fun _ => 0))), (mce, .inl (cJ, 1280, .inr (.inl (fun _ => 0)))), (mca, .inl (cJ, 160, .inr (.inl (fun _ => 0)))), (mwo, .inl (cI, 64, .inl fw_)), (mnu, .inl (cI, 10, .inl fn_)), (mte, .inl (cI, 3, .inl (fun _ => 0))), (mwa, .inl (cI, 130, .inl (fun _ => 0))), (mke, .inl (cI, 130, .inl (fun _ => 0))), (mma, .inl (cI, 3, .inl (fun _ => 0))), (mth, .inl (cI, 3, .inl (fun _ => 0))), (mtr, .inl (cI, 20, .inl (fun _ => 0)))]) ⟨hx, hb, hml, hown, hts⟩ (c_M_haste l D cI cJ cZ cP cS m0 mrf mki mpa mta mla msl mco mhe mso msi msh mce mca mwo mnu mte mwa mke mma mth mtr (a_3) (a_6)  H.size) (cwV 2 hts gq_98 rfl rfl rfl (by decide +kernel) ⟨Nat.le_of_ble_eq_true rfl, Nat.le_of_ble_eq_true rfl⟩) hK hN (hZ.kept hS) hP hD hS hA [0, 1] [2, 3, 4, 5, 6, 7, 8, 9, 10, 11, 12, 13, 14, 15, 16, 17, 18, 19, 20, 21] rfl rfl (by decide) (by decide) (by decide) (va_recv hK hP (ci := 8) (q0 := 0) rfl rfl) rfl hl.1 rfl (Nat.le_of_ble_eq_true rfl) dL_law_886 ⟨Nat.le_of_ble_eq_true rfl, Nat.le_of_ble_eq_true rfl⟩ (fun r_643 u_644 H locs hr_643 hP hD hS => ?_)
    replace hP : va_P D vwCl [(mki, .inl (cI, 8, .inl (fun _ => 0))), (mpa, .inl (cI, 8, .inl (fun _ => 0))), (mta, .inl (cI, 8, .inl (fun _ => 0))), (mla, .inl (cI, 40, .inl (fun _ => 0))), (msl, .inl (cI, 40, .inl (fun _ => 0))), (mco, .inl (cI, 3, .inl (zL3 5 10 50))), (mhe, .inl (cI, 8, .inl (fun _ => 0))), (mso, .inl (cI, 8, .inl (fun _ => 0))), (msi, .inl (cI, 8, .inl (fun _ => 0))), (msh, .inl (cI, 8, .inl (fun _ => 0))), (mce, .inl (cJ, 1280, .inr (.inl (fun _ => 0)))), (mca, .inl (cJ, 160, .inr (.inl (fun _ => 0)))), (mwo, .inl (cI, 64, .inl fw_)), (mnu, .inl (cI, 10, .inl fn_)), (mte, .inl (cI, 3, .inl (fun _ => 0))), (mwa, .inl (cI, 130, .inl (fun _ => 0))), (mke, .inl (cI, 130, .inl (fun _ => 0))), (mma, .inl (cI, 3, .inl (fun _ => 0))), (mth, .inl (cI, 3, .inl (fun _ => 0))), (mtr, .inl (cI, 20, .inl (fun _ => 0)))] H := hP
    replace hD : va_D _ [(mki, .inl (cI, 8, .inl (fun _ => 0))), (mpa, .inl (cI, 8, .inl (fun _ => 0))), (mta, .inl (cI, 8, .inl (fun _ => 0))), (mla, .inl (cI, 40, .inl (fun _ => 0))), (msl, .inl (cI, 40, .inl (fun _ => 0))), (mco, .inl (cI, 3, .inl (zL3 5 10 50))), (mhe, .inl (cI, 8, .inl (fun _ => 0))), (mso, .inl (cI, 8, .inl (fun _ => 0))), (msi, .inl (cI, 8, .inl (fun _ => 0))), (msh, .inl (cI, 8, .inl (fun _ => 0))), (mce, .inl (cJ, 1280, .inr (.inl (fun _ => 0)))), (mca, .inl (cJ, 160, .inr (.inl (fun _ => 0)))), (mwo, .inl (cI, 64, .inl fw_)), (mnu, .inl (cI, 10, .inl fn_)), (mte, .inl (cI, 3, .inl (fun _ => 0))), (mwa, .inl (cI, 130, .inl (fun _ => 0))), (mke, .inl (cI, 130, .inl (fun _ => 0))), (mma, .inl (cI, 3, .inl (fun _ => 0))), (mth, .inl (cI, 3, .inl (fun _ => 0))), (mtr, .inl (cI, 20, .inl (fun _ => 0)))] := hD
    rcases hr_643 with ⟨rfl, g_645⟩ | ⟨rfl, g_646, g_647, g_648⟩ | ⟨rfl, g_649, g_650, g_651, g_652⟩ | ⟨rfl, g_653, g_654, g_655, g_656, g_657, g_658⟩ | ⟨rfl, g_659, g_660, g_661, g_662, g_663, g_664⟩ | ⟨rfl, g_665, g_666, g_667, g_668, g_669, g_670⟩ | ⟨rfl, g_671, g_672, g_673, g_674, g_675, g_676⟩ | ⟨rfl, g_677, g_678, g_679, g_680, g_681, g_682⟩ | ⟨rfl, g_683, g_684, g_685, g_686, g_687, g_688⟩ | ⟨rfl, g_689, g_690, g_691, g_692, g_693, g_694⟩ | ⟨rfl, g_695, g_696, g_697, g_698, g_699, g_700⟩ | ⟨rfl, g_701, g_702, g_703, g_704, g_705, g_706⟩ | ⟨rfl, g_707, g_708, g_709, g_710, g_711, g_712⟩ | ⟨rfl, g_713, g_714⟩
    · exfalso; omega
    · exfalso; omega
    · exfalso; omega
    · exfalso; omega
    · exfalso; omega
    · exfalso; omega
    · refine lv_icmp_eq (tgt := 1371) hx hb dL_law_889 (by decide) (fun c_715 => ?_) (fun c_715 => ?_)
      · refine lv_iinc (v := 6) (lv' := [(3, .int 6), (2, .ref m0), (1, .ref x0), (0, .ref b)]) hx hb dL_law_1371 hl (k := 0) rfl (by decide) (by decide) rfl (fun ls hl => ?_)
        refine lv_goto (tgt := 18) hx hb dL_law_1374 (by decide) ?_
        refine lv_iload_n hx hb dL_law_18 rfl (lv_at hl 0 rfl) ?_
        refine lv_aload_n hx hb dL_law_19 rfl (lv_at hl 3 rfl) ?_
        refine va_slen hx hb hX hbl hbA hS dL_law_20 ?_
        refine lv_topi (fun y_716 ey_716 => ?_)
        obtain rfl : y_716 = 6 := ey_716.trans (by decide)
        refine lv_bipush (v := 6) hx hb dL_law_21 (by decide) ?_
        refine lv_isub hx hb dL_law_23 ?_
        refine lv_topi (fun y_717 ey_717 => ?_)
        obtain rfl : y_717 = 0 := ey_717.trans (by decide)
        refine lv_icmp_gt (tgt := 1377) hx hb dL_law_24 (by decide) (fun c_718 => ?_) (fun c_718 => ?_)
        · refine lv_iconst (v := 1) hx hb dL_law_1377 (by decide) ?_
          refine va_forget (fun q hq => hS.2.2 q hq) ?_
          refine W.widen (k := 600000) (n := 7302250) (Nat.le_of_ble_eq_true rfl) (Nat.le_of_ble_eq_true rfl) ?_
          exact lw_ret hx hb hr hlocks dL_law_1378
        · exact absurd c_718 (by decide)
      · exact absurd c_715 (by decide)
    · exfalso; omega
    · exfalso; omega
    · exfalso; omega
    · exfalso; omega
    · exfalso; omega
    · exfalso; omega
    · exfalso; omega
  · refine lv_aload_n hx hb dL_law_875 rfl (lv_at hl 1 rfl) ?_
    refine lv_aload_n hx hb dL_law_876 rfl (lv_at hl 3 rfl) ?_
    refine lv_iload_n hx hb dL_law_877 rfl (lv_at hl 0 rfl) ?_
    refine lv_iconst (v := 1) hx hb dL_law_878 (by decide) ?_
    refine lv_iadd hx hb dL_law_879 ?_
    refine lv_topi (fun y_719 ey_719 => ?_)
    obtain rfl : y_719 = 1 := ey_719.trans (by decide)
    refine va_sld hx hb hX hbl hbA hS (zf_in (by decide) (by decide)) dL_law_880 ?_
    refine lv_topi (fun y_720 ey_720 => ?_)
    obtain rfl : a_3 = y_720 := ea_3.trans ey_720.symm
    refine lv_aload_n hx hb dL_law_881 rfl (lv_at hl 3 rfl) ?_
    refine lv_iload_n hx hb dL_law_882 rfl (lv_at hl 0 rfl) ?_
    refine lv_iconst (v := 2) hx hb dL_law_883 (by decide) ?_
    refine lv_iadd hx hb dL_law_884 ?_
    refine lv_topi (fun y_721 ey_721 => ?_)
    obtain rfl : y_721 = 2 := ey_721.trans (by decide)
    refine va_sld hx hb hX hbl hbA hS (zf_in (by decide) (by decide)) dL_law_885 ?_
    refine lv_topi (fun y_722 ey_722 => ?_)
    obtain rfl : a_6 = y_722 := ea_6.trans ey_722.symm
    skip
    refine zw_V (As := [.int a_3, .int a_6]) (rest := [.int 0]) (wr := [(mki, .inl (cI, 8, .inl (fun _ => 0))), (mpa, .inl (cI, 8, .inl (fun _ => 0))), (mta, .inl (cI, 8, .inl (fun _ => 0))), (mla, .inl (cI, 40, .inl (fun _ => 0))), (msl, .inl (cI, 40, .inl (fun _ => 0))), (mco, .inl (cI, 3, .inl (zL3 5 10 50))), (mhe, .inl (cI, 8, .inl (fun _ => 0))), (mso, .inl (cI, 8, .inl (fun _ => 0))), (msi, .inl (cI, 8, .inl (fun _ => 0))), (msh, .inl (cI, 8, .inl (fun _ => 0))), (mce, .inl (cJ, 1280, .inr (.inl (fun _ => 0)))), (mca, .inl (cJ, 160, .inr (.inl (fun _ => 0)))), (mwo, .inl (cI, 64, .inl fw_)), (mnu, .inl (cI, 10, .inl fn_)), (mte, .inl (cI, 3, .inl (fun _ => 0))), (mwa, .inl (cI, 130, .inl (fun _ => 0))), (mke, .inl (cI, 130, .inl (fun _ => 0))), (mma, .inl (cI, 3, .inl (fun _ => 0))), (mth, .inl (cI, 3, .inl (fun _ => 0))), (mtr, .inl (cI, 20, .inl (fun _ => 0)))]) ⟨hx, hb, hml, hown, hts⟩ (c_M_haste l D cI cJ cZ cP cS m0 mrf mki mpa mta mla msl mco mhe mso msi msh mce mca mwo mnu mte mwa mke mma mth mtr (a_3) (a_6)  H.size) (cwV 2 hts gq_98 rfl rfl rfl (by decide +kernel) ⟨Nat.le_of_ble_eq_true rfl, Nat.le_of_ble_eq_true rfl⟩) hK hN (hZ.kept hS) hP hD hS hA [0, 1] [2, 3, 4, 5, 6, 7, 8, 9, 10, 11, 12, 13, 14, 15, 16, 17, 18, 19, 20, 21] rfl rfl (by decide) (by decide) (by decide) (va_recv hK hP (ci := 8) (q0 := 0) rfl rfl) rfl hl.1 rfl (Nat.le_of_ble_eq_true rfl) dL_law_886 ⟨Nat.le_of_ble_eq_true rfl, Nat.le_of_ble_eq_true rfl⟩ (fun r_723 u_724 H locs hr_723 hP hD hS => ?_)
    replace hP : va_P D vwCl [(mki, .inl (cI, 8, .inl (fun _ => 0))), (mpa, .inl (cI, 8, .inl (fun _ => 0))), (mta, .inl (cI, 8, .inl (fun _ => 0))), (mla, .inl (cI, 40, .inl (fun _ => 0))), (msl, .inl (cI, 40, .inl (fun _ => 0))), (mco, .inl (cI, 3, .inl (zL3 5 10 50))), (mhe, .inl (cI, 8, .inl (fun _ => 0))), (mso, .inl (cI, 8, .inl (fun _ => 0))), (msi, .inl (cI, 8, .inl (fun _ => 0))), (msh, .inl (cI, 8, .inl (fun _ => 0))), (mce, .inl (cJ, 1280, .inr (.inl (fun _ => 0)))), (mca, .inl (cJ, 160, .inr (.inl (fun _ => 0)))), (mwo, .inl (cI, 64, .inl fw_)), (mnu, .inl (cI, 10, .inl fn_)), (mte, .inl (cI, 3, .inl (fun _ => 0))), (mwa, .inl (cI, 130, .inl (fun _ => 0))), (mke, .inl (cI, 130, .inl (fun _ => 0))), (mma, .inl (cI, 3, .inl (fun _ => 0))), (mth, .inl (cI, 3, .inl (fun _ => 0))), (mtr, .inl (cI, 20, .inl (fun _ => 0)))] H := hP
    replace hD : va_D _ [(mki, .inl (cI, 8, .inl (fun _ => 0))), (mpa, .inl (cI, 8, .inl (fun _ => 0))), (mta, .inl (cI, 8, .inl (fun _ => 0))), (mla, .inl (cI, 40, .inl (fun _ => 0))), (msl, .inl (cI, 40, .inl (fun _ => 0))), (mco, .inl (cI, 3, .inl (zL3 5 10 50))), (mhe, .inl (cI, 8, .inl (fun _ => 0))), (mso, .inl (cI, 8, .inl (fun _ => 0))), (msi, .inl (cI, 8, .inl (fun _ => 0))), (msh, .inl (cI, 8, .inl (fun _ => 0))), (mce, .inl (cJ, 1280, .inr (.inl (fun _ => 0)))), (mca, .inl (cJ, 160, .inr (.inl (fun _ => 0)))), (mwo, .inl (cI, 64, .inl fw_)), (mnu, .inl (cI, 10, .inl fn_)), (mte, .inl (cI, 3, .inl (fun _ => 0))), (mwa, .inl (cI, 130, .inl (fun _ => 0))), (mke, .inl (cI, 130, .inl (fun _ => 0))), (mma, .inl (cI, 3, .inl (fun _ => 0))), (mth, .inl (cI, 3, .inl (fun _ => 0))), (mtr, .inl (cI, 20, .inl (fun _ => 0)))] := hD
    rcases hr_723 with ⟨rfl, g_725⟩ | ⟨rfl, g_726, g_727, g_728⟩ | ⟨rfl, g_729, g_730, g_731, g_732⟩ | ⟨rfl, g_733, g_734, g_735, g_736, g_737, g_738⟩ | ⟨rfl, g_739, g_740, g_741, g_742, g_743, g_744⟩ | ⟨rfl, g_745, g_746, g_747, g_748, g_749, g_750⟩ | ⟨rfl, g_751, g_752, g_753, g_754, g_755, g_756⟩ | ⟨rfl, g_757, g_758, g_759, g_760, g_761, g_762⟩ | ⟨rfl, g_763, g_764, g_765, g_766, g_767, g_768⟩ | ⟨rfl, g_769, g_770, g_771, g_772, g_773, g_774⟩ | ⟨rfl, g_775, g_776, g_777, g_778, g_779, g_780⟩ | ⟨rfl, g_781, g_782, g_783, g_784, g_785, g_786⟩ | ⟨rfl, g_787, g_788, g_789, g_790, g_791, g_792⟩ | ⟨rfl, g_793, g_794⟩
    · exfalso; omega
    · exfalso; omega
    · exfalso; omega
    · exfalso; omega
    · exfalso; omega
    · exfalso; omega
    · exfalso; omega
    · refine lv_icmp_eq (tgt := 1371) hx hb dL_law_889 (by decide) (fun c_795 => ?_) (fun c_795 => ?_)
      · refine lv_iinc (v := 6) (lv' := [(3, .int 6), (2, .ref m0), (1, .ref x0), (0, .ref b)]) hx hb dL_law_1371 hl (k := 0) rfl (by decide) (by decide) rfl (fun ls hl => ?_)
        refine lv_goto (tgt := 18) hx hb dL_law_1374 (by decide) ?_
        refine lv_iload_n hx hb dL_law_18 rfl (lv_at hl 0 rfl) ?_
        refine lv_aload_n hx hb dL_law_19 rfl (lv_at hl 3 rfl) ?_
        refine va_slen hx hb hX hbl hbA hS dL_law_20 ?_
        refine lv_topi (fun y_796 ey_796 => ?_)
        obtain rfl : y_796 = 6 := ey_796.trans (by decide)
        refine lv_bipush (v := 6) hx hb dL_law_21 (by decide) ?_
        refine lv_isub hx hb dL_law_23 ?_
        refine lv_topi (fun y_797 ey_797 => ?_)
        obtain rfl : y_797 = 0 := ey_797.trans (by decide)
        refine lv_icmp_gt (tgt := 1377) hx hb dL_law_24 (by decide) (fun c_798 => ?_) (fun c_798 => ?_)
        · refine lv_iconst (v := 1) hx hb dL_law_1377 (by decide) ?_
          refine va_forget (fun q hq => hS.2.2 q hq) ?_
          refine W.widen (k := 600000) (n := 7302250) (Nat.le_of_ble_eq_true rfl) (Nat.le_of_ble_eq_true rfl) ?_
          exact lw_ret hx hb hr hlocks dL_law_1378
        · exact absurd c_798 (by decide)
      · exact absurd c_795 (by decide)
    · exfalso; omega
    · exfalso; omega
    · exfalso; omega
    · exfalso; omega
    · exfalso; omega
    · exfalso; omega
  · refine lv_aload_n hx hb dL_law_875 rfl (lv_at hl 1 rfl) ?_
    refine lv_aload_n hx hb dL_law_876 rfl (lv_at hl 3 rfl) ?_
    refine lv_iload_n hx hb dL_law_877 rfl (lv_at hl 0 rfl) ?_
    refine lv_iconst (v := 1) hx hb dL_law_878 (by decide) ?_
    refine lv_iadd hx hb dL_law_879 ?_
    refine lv_topi (fun y_799 ey_799 => ?_)
    obtain rfl : y_799 = 1 := ey_799.trans (by decide)
    refine va_sld hx hb hX hbl hbA hS (zf_in (by decide) (by decide)) dL_law_880 ?_
    refine lv_topi (fun y_800 ey_800 => ?_)
    obtain rfl : a_3 = y_800 := ea_3.trans ey_800.symm
    refine lv_aload_n hx hb dL_law_881 rfl (lv_at hl 3 rfl) ?_
    refine lv_iload_n hx hb dL_law_882 rfl (lv_at hl 0 rfl) ?_
    refine lv_iconst (v := 2) hx hb dL_law_883 (by decide) ?_
    refine lv_iadd hx hb dL_law_884 ?_
    refine lv_topi (fun y_801 ey_801 => ?_)
    obtain rfl : y_801 = 2 := ey_801.trans (by decide)
    refine va_sld hx hb hX hbl hbA hS (zf_in (by decide) (by decide)) dL_law_885 ?_
    refine lv_topi (fun y_802 ey_802 => ?_)
    obtain rfl : a_6 = y_802 := ea_6.trans ey_802.symm
    skip
    refine zw_V (As := [.int a_3, .int a_6]) (rest := [.int 0]) (wr := [(mki, .inl (cI, 8, .inl (fun _ => 0))), (mpa, .inl (cI, 8, .inl (fun _ => 0))), (mta, .inl (cI, 8, .inl (fun _ => 0))), (mla, .inl (cI, 40, .inl (fun _ => 0))), (msl, .inl (cI, 40, .inl (fun _ => 0))), (mco, .inl (cI, 3, .inl (zL3 5 10 50))), (mhe, .inl (cI, 8, .inl (fun _ => 0))), (mso, .inl (cI, 8, .inl (fun _ => 0))), (msi, .inl (cI, 8, .inl (fun _ => 0))), (msh, .inl (cI, 8, .inl (fun _ => 0))), (mce, .inl (cJ, 1280, .inr (.inl (fun _ => 0)))), (mca, .inl (cJ, 160, .inr (.inl (fun _ => 0)))), (mwo, .inl (cI, 64, .inl fw_)), (mnu, .inl (cI, 10, .inl fn_)), (mte, .inl (cI, 3, .inl (fun _ => 0))), (mwa, .inl (cI, 130, .inl (fun _ => 0))), (mke, .inl (cI, 130, .inl (fun _ => 0))), (mma, .inl (cI, 3, .inl (fun _ => 0))), (mth, .inl (cI, 3, .inl (fun _ => 0))), (mtr, .inl (cI, 20, .inl (fun _ => 0)))]) ⟨hx, hb, hml, hown, hts⟩ (c_M_haste l D cI cJ cZ cP cS m0 mrf mki mpa mta mla msl mco mhe mso msi msh mce mca mwo mnu mte mwa mke mma mth mtr (a_3) (a_6)  H.size) (cwV 2 hts gq_98 rfl rfl rfl (by decide +kernel) ⟨Nat.le_of_ble_eq_true rfl, Nat.le_of_ble_eq_true rfl⟩) hK hN (hZ.kept hS) hP hD hS hA [0, 1] [2, 3, 4, 5, 6, 7, 8, 9, 10, 11, 12, 13, 14, 15, 16, 17, 18, 19, 20, 21] rfl rfl (by decide) (by decide) (by decide) (va_recv hK hP (ci := 8) (q0 := 0) rfl rfl) rfl hl.1 rfl (Nat.le_of_ble_eq_true rfl) dL_law_886 ⟨Nat.le_of_ble_eq_true rfl, Nat.le_of_ble_eq_true rfl⟩ (fun r_803 u_804 H locs hr_803 hP hD hS => ?_)
    replace hP : va_P D vwCl [(mki, .inl (cI, 8, .inl (fun _ => 0))), (mpa, .inl (cI, 8, .inl (fun _ => 0))), (mta, .inl (cI, 8, .inl (fun _ => 0))), (mla, .inl (cI, 40, .inl (fun _ => 0))), (msl, .inl (cI, 40, .inl (fun _ => 0))), (mco, .inl (cI, 3, .inl (zL3 5 10 50))), (mhe, .inl (cI, 8, .inl (fun _ => 0))), (mso, .inl (cI, 8, .inl (fun _ => 0))), (msi, .inl (cI, 8, .inl (fun _ => 0))), (msh, .inl (cI, 8, .inl (fun _ => 0))), (mce, .inl (cJ, 1280, .inr (.inl (fun _ => 0)))), (mca, .inl (cJ, 160, .inr (.inl (fun _ => 0)))), (mwo, .inl (cI, 64, .inl fw_)), (mnu, .inl (cI, 10, .inl fn_)), (mte, .inl (cI, 3, .inl (fun _ => 0))), (mwa, .inl (cI, 130, .inl (fun _ => 0))), (mke, .inl (cI, 130, .inl (fun _ => 0))), (mma, .inl (cI, 3, .inl (fun _ => 0))), (mth, .inl (cI, 3, .inl (fun _ => 0))), (mtr, .inl (cI, 20, .inl (fun _ => 0)))] H := hP
    replace hD : va_D _ [(mki, .inl (cI, 8, .inl (fun _ => 0))), (mpa, .inl (cI, 8, .inl (fun _ => 0))), (mta, .inl (cI, 8, .inl (fun _ => 0))), (mla, .inl (cI, 40, .inl (fun _ => 0))), (msl, .inl (cI, 40, .inl (fun _ => 0))), (mco, .inl (cI, 3, .inl (zL3 5 10 50))), (mhe, .inl (cI, 8, .inl (fun _ => 0))), (mso, .inl (cI, 8, .inl (fun _ => 0))), (msi, .inl (cI, 8, .inl (fun _ => 0))), (msh, .inl (cI, 8, .inl (fun _ => 0))), (mce, .inl (cJ, 1280, .inr (.inl (fun _ => 0)))), (mca, .inl (cJ, 160, .inr (.inl (fun _ => 0)))), (mwo, .inl (cI, 64, .inl fw_)), (mnu, .inl (cI, 10, .inl fn_)), (mte, .inl (cI, 3, .inl (fun _ => 0))), (mwa, .inl (cI, 130, .inl (fun _ => 0))), (mke, .inl (cI, 130, .inl (fun _ => 0))), (mma, .inl (cI, 3, .inl (fun _ => 0))), (mth, .inl (cI, 3, .inl (fun _ => 0))), (mtr, .inl (cI, 20, .inl (fun _ => 0)))] := hD
    rcases hr_803 with ⟨rfl, g_805⟩ | ⟨rfl, g_806, g_807, g_808⟩ | ⟨rfl, g_809, g_810, g_811, g_812⟩ | ⟨rfl, g_813, g_814, g_815, g_816, g_817, g_818⟩ | ⟨rfl, g_819, g_820, g_821, g_822, g_823, g_824⟩ | ⟨rfl, g_825, g_826, g_827, g_828, g_829, g_830⟩ | ⟨rfl, g_831, g_832, g_833, g_834, g_835, g_836⟩ | ⟨rfl, g_837, g_838, g_839, g_840, g_841, g_842⟩ | ⟨rfl, g_843, g_844, g_845, g_846, g_847, g_848⟩ | ⟨rfl, g_849, g_850, g_851, g_852, g_853, g_854⟩ | ⟨rfl, g_855, g_856, g_857, g_858, g_859, g_860⟩ | ⟨rfl, g_861, g_862, g_863, g_864, g_865, g_866⟩ | ⟨rfl, g_867, g_868, g_869, g_870, g_871, g_872⟩ | ⟨rfl, g_873, g_874⟩
    · exfalso; omega
    · exfalso; omega
    · exfalso; omega
    · exfalso; omega
    · exfalso; omega
    · exfalso; omega
    · exfalso; omega
    · exfalso; omega
    · refine lv_icmp_eq (tgt := 1371) hx hb dL_law_889 (by decide) (fun c_875 => ?_) (fun c_875 => ?_)
      · refine lv_iinc (v := 6) (lv' := [(3, .int 6), (2, .ref m0), (1, .ref x0), (0, .ref b)]) hx hb dL_law_1371 hl (k := 0) rfl (by decide) (by decide) rfl (fun ls hl => ?_)
        refine lv_goto (tgt := 18) hx hb dL_law_1374 (by decide) ?_
        refine lv_iload_n hx hb dL_law_18 rfl (lv_at hl 0 rfl) ?_
        refine lv_aload_n hx hb dL_law_19 rfl (lv_at hl 3 rfl) ?_
        refine va_slen hx hb hX hbl hbA hS dL_law_20 ?_
        refine lv_topi (fun y_876 ey_876 => ?_)
        obtain rfl : y_876 = 6 := ey_876.trans (by decide)
        refine lv_bipush (v := 6) hx hb dL_law_21 (by decide) ?_
        refine lv_isub hx hb dL_law_23 ?_
        refine lv_topi (fun y_877 ey_877 => ?_)
        obtain rfl : y_877 = 0 := ey_877.trans (by decide)
        refine lv_icmp_gt (tgt := 1377) hx hb dL_law_24 (by decide) (fun c_878 => ?_) (fun c_878 => ?_)
        · refine lv_iconst (v := 1) hx hb dL_law_1377 (by decide) ?_
          refine va_forget (fun q hq => hS.2.2 q hq) ?_
          refine W.widen (k := 600000) (n := 7302250) (Nat.le_of_ble_eq_true rfl) (Nat.le_of_ble_eq_true rfl) ?_
          exact lw_ret hx hb hr hlocks dL_law_1378
        · exact absurd c_878 (by decide)
      · exact absurd c_875 (by decide)
    · exfalso; omega
    · exfalso; omega
    · exfalso; omega
    · exfalso; omega
    · exfalso; omega
  · refine lv_aload_n hx hb dL_law_875 rfl (lv_at hl 1 rfl) ?_
    refine lv_aload_n hx hb dL_law_876 rfl (lv_at hl 3 rfl) ?_
    refine lv_iload_n hx hb dL_law_877 rfl (lv_at hl 0 rfl) ?_
    refine lv_iconst (v := 1) hx hb dL_law_878 (by decide) ?_
    refine lv_iadd hx hb dL_law_879 ?_
    refine lv_topi (fun y_879 ey_879 => ?_)
    obtain rfl : y_879 = 1 := ey_879.trans (by decide)
    refine va_sld hx hb hX hbl hbA hS (zf_in (by decide) (by decide)) dL_law_880 ?_
    refine lv_topi (fun y_880 ey_880 => ?_)
    obtain rfl : a_3 = y_880 := ea_3.trans ey_880.symm
    refine lv_aload_n hx hb dL_law_881 rfl (lv_at hl 3 rfl) ?_
    refine lv_iload_n hx hb dL_law_882 rfl (lv_at hl 0 rfl) ?_
    refine lv_iconst (v := 2) hx hb dL_law_883 (by decide) ?_
    refine lv_iadd hx hb dL_law_884 ?_
    refine lv_topi (fun y_881 ey_881 => ?_)
    obtain rfl : y_881 = 2 := ey_881.trans (by decide)
    refine va_sld hx hb hX hbl hbA hS (zf_in (by decide) (by decide)) dL_law_885 ?_
    refine lv_topi (fun y_882 ey_882 => ?_)
    obtain rfl : a_6 = y_882 := ea_6.trans ey_882.symm
    skip
    refine zw_V (As := [.int a_3, .int a_6]) (rest := [.int 0]) (wr := [(mki, .inl (cI, 8, .inl (fun _ => 0))), (mpa, .inl (cI, 8, .inl (fun _ => 0))), (mta, .inl (cI, 8, .inl (fun _ => 0))), (mla, .inl (cI, 40, .inl (fun _ => 0))), (msl, .inl (cI, 40, .inl (fun _ => 0))), (mco, .inl (cI, 3, .inl (zL3 5 10 50))), (mhe, .inl (cI, 8, .inl (fun _ => 0))), (mso, .inl (cI, 8, .inl (fun _ => 0))), (msi, .inl (cI, 8, .inl (fun _ => 0))), (msh, .inl (cI, 8, .inl (fun _ => 0))), (mce, .inl (cJ, 1280, .inr (.inl (fun _ => 0)))), (mca, .inl (cJ, 160, .inr (.inl (fun _ => 0)))), (mwo, .inl (cI, 64, .inl fw_)), (mnu, .inl (cI, 10, .inl fn_)), (mte, .inl (cI, 3, .inl (fun _ => 0))), (mwa, .inl (cI, 130, .inl (fun _ => 0))), (mke, .inl (cI, 130, .inl (fun _ => 0))), (mma, .inl (cI, 3, .inl (fun _ => 0))), (mth, .inl (cI, 3, .inl (fun _ => 0))), (mtr, .inl (cI, 20, .inl (fun _ => 0)))]) ⟨hx, hb, hml, hown, hts⟩ (c_M_haste l D cI cJ cZ cP cS m0 mrf mki mpa mta mla msl mco mhe mso msi msh mce mca mwo mnu mte mwa mke mma mth mtr (a_3) (a_6)  H.size) (cwV 2 hts gq_98 rfl rfl rfl (by decide +kernel) ⟨Nat.le_of_ble_eq_true rfl, Nat.le_of_ble_eq_true rfl⟩) hK hN (hZ.kept hS) hP hD hS hA [0, 1] [2, 3, 4, 5, 6, 7, 8, 9, 10, 11, 12, 13, 14, 15, 16, 17, 18, 19, 20, 21] rfl rfl (by decide) (by decide) (by decide) (va_recv hK hP (ci := 8) (q0 := 0) rfl rfl) rfl hl.1 rfl (Nat.le_of_ble_eq_true rfl) dL_law_886 ⟨Nat.le_of_ble_eq_true rfl, Nat.le_of_ble_eq_true rfl⟩ (fun r_883 u_884 H locs hr_883 hP hD hS => ?_)
    replace hP : va_P D vwCl [(mki, .inl (cI, 8, .inl (fun _ => 0))), (mpa, .inl (cI, 8, .inl (fun _ => 0))), (mta, .inl (cI, 8, .inl (fun _ => 0))), (mla, .inl (cI, 40, .inl (fun _ => 0))), (msl, .inl (cI, 40, .inl (fun _ => 0))), (mco, .inl (cI, 3, .inl (zL3 5 10 50))), (mhe, .inl (cI, 8, .inl (fun _ => 0))), (mso, .inl (cI, 8, .inl (fun _ => 0))), (msi, .inl (cI, 8, .inl (fun _ => 0))), (msh, .inl (cI, 8, .inl (fun _ => 0))), (mce, .inl (cJ, 1280, .inr (.inl (fun _ => 0)))), (mca, .inl (cJ, 160, .inr (.inl (fun _ => 0)))), (mwo, .inl (cI, 64, .inl fw_)), (mnu, .inl (cI, 10, .inl fn_)), (mte, .inl (cI, 3, .inl (fun _ => 0))), (mwa, .inl (cI, 130, .inl (fun _ => 0))), (mke, .inl (cI, 130, .inl (fun _ => 0))), (mma, .inl (cI, 3, .inl (fun _ => 0))), (mth, .inl (cI, 3, .inl (fun _ => 0))), (mtr, .inl (cI, 20, .inl (fun _ => 0)))] H := hP
    replace hD : va_D _ [(mki, .inl (cI, 8, .inl (fun _ => 0))), (mpa, .inl (cI, 8, .inl (fun _ => 0))), (mta, .inl (cI, 8, .inl (fun _ => 0))), (mla, .inl (cI, 40, .inl (fun _ => 0))), (msl, .inl (cI, 40, .inl (fun _ => 0))), (mco, .inl (cI, 3, .inl (zL3 5 10 50))), (mhe, .inl (cI, 8, .inl (fun _ => 0))), (mso, .inl (cI, 8, .inl (fun _ => 0))), (msi, .inl (cI, 8, .inl (fun _ => 0))), (msh, .inl (cI, 8, .inl (fun _ => 0))), (mce, .inl (cJ, 1280, .inr (.inl (fun _ => 0)))), (mca, .inl (cJ, 160, .inr (.inl (fun _ => 0)))), (mwo, .inl (cI, 64, .inl fw_)), (mnu, .inl (cI, 10, .inl fn_)), (mte, .inl (cI, 3, .inl (fun _ => 0))), (mwa, .inl (cI, 130, .inl (fun _ => 0))), (mke, .inl (cI, 130, .inl (fun _ => 0))), (mma, .inl (cI, 3, .inl (fun _ => 0))), (mth, .inl (cI, 3, .inl (fun _ => 0))), (mtr, .inl (cI, 20, .inl (fun _ => 0)))] := hD
    rcases hr_883 with ⟨rfl, g_885⟩ | ⟨rfl, g_886, g_887, g_888⟩ | ⟨rfl, g_889, g_890, g_891, g_892⟩ | ⟨rfl, g_893, g_894, g_895, g_896, g_897, g_898⟩ | ⟨rfl, g_899, g_900, g_901, g_902, g_903, g_904⟩ | ⟨rfl, g_905, g_906, g_907, g_908, g_909, g_910⟩ | ⟨rfl, g_911, g_912, g_913, g_914, g_915, g_916⟩ | ⟨rfl, g_917, g_918, g_919, g_920, g_921, g_922⟩ | ⟨rfl, g_923, g_924, g_925, g_926, g_927, g_928⟩ | ⟨rfl, g_929, g_930, g_931, g_932, g_933, g_934⟩ | ⟨rfl, g_935, g_936, g_937, g_938, g_939, g_940⟩ | ⟨rfl, g_941, g_942, g_943, g_944, g_945, g_946⟩ | ⟨rfl, g_947, g_948, g_949, g_950, g_951, g_952⟩ | ⟨rfl, g_953, g_954⟩
    · exfalso; omega
    · exfalso; omega
    · exfalso; omega
    · exfalso; omega
    · exfalso; omega
    · exfalso; omega
    · exfalso; omega
    · exfalso; omega
    · exfalso; omega
    · refine lv_icmp_eq (tgt := 1371) hx hb dL_law_889 (by decide) (fun c_955 => ?_) (fun c_955 => ?_)
      · refine lv_iinc (v := 6) (lv' := [(3, .int 6), (2, .ref m0), (1, .ref x0), (0, .ref b)]) hx hb dL_law_1371 hl (k := 0) rfl (by decide) (by decide) rfl (fun ls hl => ?_)
        refine lv_goto (tgt := 18) hx hb dL_law_1374 (by decide) ?_
        refine lv_iload_n hx hb dL_law_18 rfl (lv_at hl 0 rfl) ?_
        refine lv_aload_n hx hb dL_law_19 rfl (lv_at hl 3 rfl) ?_
        refine va_slen hx hb hX hbl hbA hS dL_law_20 ?_
        refine lv_topi (fun y_956 ey_956 => ?_)
        obtain rfl : y_956 = 6 := ey_956.trans (by decide)
        refine lv_bipush (v := 6) hx hb dL_law_21 (by decide) ?_
        refine lv_isub hx hb dL_law_23 ?_
        refine lv_topi (fun y_957 ey_957 => ?_)
        obtain rfl : y_957 = 0 := ey_957.trans (by decide)
        refine lv_icmp_gt (tgt := 1377) hx hb dL_law_24 (by decide) (fun c_958 => ?_) (fun c_958 => ?_)
        · refine lv_iconst (v := 1) hx hb dL_law_1377 (by decide) ?_
          refine va_forget (fun q hq => hS.2.2 q hq) ?_
          refine W.widen (k := 600000) (n := 7302250) (Nat.le_of_ble_eq_true rfl) (Nat.le_of_ble_eq_true rfl) ?_
          exact lw_ret hx hb hr hlocks dL_law_1378
        · exact absurd c_958 (by decide)
      · exact absurd c_955 (by decide)
    · exfalso; omega
    · exfalso; omega
    · exfalso; omega
    · exfalso; omega
  · refine lv_aload_n hx hb dL_law_875 rfl (lv_at hl 1 rfl) ?_
    refine lv_aload_n hx hb dL_law_876 rfl (lv_at hl 3 rfl) ?_
    refine lv_iload_n hx hb dL_law_877 rfl (lv_at hl 0 rfl) ?_
    refine lv_iconst (v := 1) hx hb dL_law_878 (by decide) ?_
    refine lv_iadd hx hb dL_law_879 ?_
    refine lv_topi (fun y_959 ey_959 => ?_)
    obtain rfl : y_959 = 1 := ey_959.trans (by decide)
    refine va_sld hx hb hX hbl hbA hS (zf_in (by decide) (by decide)) dL_law_880 ?_
    refine lv_topi (fun y_960 ey_960 => ?_)
    obtain rfl : a_3 = y_960 := ea_3.trans ey_960.symm
    refine lv_aload_n hx hb dL_law_881 rfl (lv_at hl 3 rfl) ?_
    refine lv_iload_n hx hb dL_law_882 rfl (lv_at hl 0 rfl) ?_
    refine lv_iconst (v := 2) hx hb dL_law_883 (by decide) ?_
    refine lv_iadd hx hb dL_law_884 ?_
    refine lv_topi (fun y_961 ey_961 => ?_)
    obtain rfl : y_961 = 2 := ey_961.trans (by decide)
    refine va_sld hx hb hX hbl hbA hS (zf_in (by decide) (by decide)) dL_law_885 ?_
    refine lv_topi (fun y_962 ey_962 => ?_)
    obtain rfl : a_6 = y_962 := ea_6.trans ey_962.symm
    skip
    refine zw_V (As := [.int a_3, .int a_6]) (rest := [.int 0]) (wr := [(mki, .inl (cI, 8, .inl (fun _ => 0))), (mpa, .inl (cI, 8, .inl (fun _ => 0))), (mta, .inl (cI, 8, .inl (fun _ => 0))), (mla, .inl (cI, 40, .inl (fun _ => 0))), (msl, .inl (cI, 40, .inl (fun _ => 0))), (mco, .inl (cI, 3, .inl (zL3 5 10 50))), (mhe, .inl (cI, 8, .inl (fun _ => 0))), (mso, .inl (cI, 8, .inl (fun _ => 0))), (msi, .inl (cI, 8, .inl (fun _ => 0))), (msh, .inl (cI, 8, .inl (fun _ => 0))), (mce, .inl (cJ, 1280, .inr (.inl (fun _ => 0)))), (mca, .inl (cJ, 160, .inr (.inl (fun _ => 0)))), (mwo, .inl (cI, 64, .inl fw_)), (mnu, .inl (cI, 10, .inl fn_)), (mte, .inl (cI, 3, .inl (fun _ => 0))), (mwa, .inl (cI, 130, .inl (fun _ => 0))), (mke, .inl (cI, 130, .inl (fun _ => 0))), (mma, .inl (cI, 3, .inl (fun _ => 0))), (mth, .inl (cI, 3, .inl (fun _ => 0))), (mtr, .inl (cI, 20, .inl (fun _ => 0)))]) ⟨hx, hb, hml, hown, hts⟩ (c_M_haste l D cI cJ cZ cP cS m0 mrf mki mpa mta mla msl mco mhe mso msi msh mce mca mwo mnu mte mwa mke mma mth mtr (a_3) (a_6)  H.size) (cwV 2 hts gq_98 rfl rfl rfl (by decide +kernel) ⟨Nat.le_of_ble_eq_true rfl, Nat.le_of_ble_eq_true rfl⟩) hK hN (hZ.kept hS) hP hD hS hA [0, 1] [2, 3, 4, 5, 6, 7, 8, 9, 10, 11, 12, 13, 14, 15, 16, 17, 18, 19, 20, 21] rfl rfl (by decide) (by decide) (by decide) (va_recv hK hP (ci := 8) (q0 := 0) rfl rfl) rfl hl.1 rfl (Nat.le_of_ble_eq_true rfl) dL_law_886 ⟨Nat.le_of_ble_eq_true rfl, Nat.le_of_ble_eq_true rfl⟩ (fun r_963 u_964 H locs hr_963 hP hD hS => ?_)
    replace hP : va_P D vwCl [(mki, .inl (cI, 8, .inl (fun _ => 0))), (mpa, .inl (cI, 8, .inl (fun _ => 0))), (mta, .inl (cI, 8, .inl (fun _ => 0))), (mla, .inl (cI, 40, .inl (fun _ => 0))), (msl, .inl (cI, 40, .inl (fun _ => 0))), (mco, .inl (cI, 3, .inl (zL3 5 10 50))), (mhe, .inl (cI, 8, .inl (fun _ => 0))), (mso, .inl (cI, 8, .inl (fun _ => 0))), (msi, .inl (cI, 8, .inl (fun _ => 0))), (msh, .inl (cI, 8, .inl (fun _ => 0))), (mce, .inl (cJ, 1280, .inr (.inl (fun _ => 0)))), (mca, .inl (cJ, 160, .inr (.inl (fun _ => 0)))), (mwo, .inl (cI, 64, .inl fw_)), (mnu, .inl (cI, 10, .inl fn_)), (mte, .inl (cI, 3, .inl (fun _ => 0))), (mwa, .inl (cI, 130, .inl (fun _ => 0))), (mke, .inl (cI, 130, .inl (fun _ => 0))), (mma, .inl (cI, 3, .inl (fun _ => 0))), (mth, .inl (cI, 3, .inl (fun _ => 0))), (mtr, .inl (cI, 20, .inl (fun _ => 0)))] H := hP
    replace hD : va_D _ [(mki, .inl (cI, 8, .inl (fun _ => 0))), (mpa, .inl (cI, 8, .inl (fun _ => 0))), (mta, .inl (cI, 8, .inl (fun _ => 0))), (mla, .inl (cI, 40, .inl (fun _ => 0))), (msl, .inl (cI, 40, .inl (fun _ => 0))), (mco, .inl (cI, 3, .inl (zL3 5 10 50))), (mhe, .inl (cI, 8, .inl (fun _ => 0))), (mso, .inl (cI, 8, .inl (fun _ => 0))), (msi, .inl (cI, 8, .inl (fun _ => 0))), (msh, .inl (cI, 8, .inl (fun _ => 0))), (mce, .inl (cJ, 1280, .inr (.inl (fun _ => 0)))), (mca, .inl (cJ, 160, .inr (.inl (fun _ => 0)))), (mwo, .inl (cI, 64, .inl fw_)), (mnu, .inl (cI, 10, .inl fn_)), (mte, .inl (cI, 3, .inl (fun _ => 0))), (mwa, .inl (cI, 130, .inl (fun _ => 0))), (mke, .inl (cI, 130, .inl (fun _ => 0))), (mma, .inl (cI, 3, .inl (fun _ => 0))), (mth, .inl (cI, 3, .inl (fun _ => 0))), (mtr, .inl (cI, 20, .inl (fun _ => 0)))] := hD
    rcases hr_963 with ⟨rfl, g_965⟩ | ⟨rfl, g_966, g_967, g_968⟩ | ⟨rfl, g_969, g_970, g_971, g_972⟩ | ⟨rfl, g_973, g_974, g_975, g_976, g_977, g_978⟩ | ⟨rfl, g_979, g_980, g_981, g_982, g_983, g_984⟩ | ⟨rfl, g_985, g_986, g_987, g_988, g_989, g_990⟩ | ⟨rfl, g_991, g_992, g_993, g_994, g_995, g_996⟩ | ⟨rfl, g_997, g_998, g_999, g_1000, g_1001, g_1002⟩ | ⟨rfl, g_1003, g_1004, g_1005, g_1006, g_1007, g_1008⟩ | ⟨rfl, g_1009, g_1010, g_1011, g_1012, g_1013, g_1014⟩ | ⟨rfl, g_1015, g_1016, g_1017, g_1018, g_1019, g_1020⟩ | ⟨rfl, g_1021, g_1022, g_1023, g_1024, g_1025, g_1026⟩ | ⟨rfl, g_1027, g_1028, g_1029, g_1030, g_1031, g_1032⟩ | ⟨rfl, g_1033, g_1034⟩
    · exfalso; omega
    · exfalso; omega
    · exfalso; omega
    · exfalso; omega
    · exfalso; omega
    · exfalso; omega
    · exfalso; omega
    · exfalso; omega
    · exfalso; omega
    · exfalso; omega
    · refine lv_icmp_eq (tgt := 1371) hx hb dL_law_889 (by decide) (fun c_1035 => ?_) (fun c_1035 => ?_)
      · refine lv_iinc (v := 6) (lv' := [(3, .int 6), (2, .ref m0), (1, .ref x0), (0, .ref b)]) hx hb dL_law_1371 hl (k := 0) rfl (by decide) (by decide) rfl (fun ls hl => ?_)
        refine lv_goto (tgt := 18) hx hb dL_law_1374 (by decide) ?_
        refine lv_iload_n hx hb dL_law_18 rfl (lv_at hl 0 rfl) ?_
        refine lv_aload_n hx hb dL_law_19 rfl (lv_at hl 3 rfl) ?_
        refine va_slen hx hb hX hbl hbA hS dL_law_20 ?_
        refine lv_topi (fun y_1036 ey_1036 => ?_)
        obtain rfl : y_1036 = 6 := ey_1036.trans (by decide)
        refine lv_bipush (v := 6) hx hb dL_law_21 (by decide) ?_
        refine lv_isub hx hb dL_law_23 ?_
        refine lv_topi (fun y_1037 ey_1037 => ?_)
        obtain rfl : y_1037 = 0 := ey_1037.trans (by decide)
        refine lv_icmp_gt (tgt := 1377) hx hb dL_law_24 (by decide) (fun c_1038 => ?_) (fun c_1038 => ?_)
        · refine lv_iconst (v := 1) hx hb dL_law_1377 (by decide) ?_
          refine va_forget (fun q hq => hS.2.2 q hq) ?_
          refine W.widen (k := 600000) (n := 7302250) (Nat.le_of_ble_eq_true rfl) (Nat.le_of_ble_eq_true rfl) ?_
          exact lw_ret hx hb hr hlocks dL_law_1378
        · exact absurd c_1038 (by decide)
      · exact absurd c_1035 (by decide)
    · exfalso; omega
    · exfalso; omega
    · exfalso; omega
  · refine lv_aload_n hx hb dL_law_875 rfl (lv_at hl 1 rfl) ?_
    refine lv_aload_n hx hb dL_law_876 rfl (lv_at hl 3 rfl) ?_
    refine lv_iload_n hx hb dL_law_877 rfl (lv_at hl 0 rfl) ?_
    refine lv_iconst (v := 1) hx hb dL_law_878 (by decide) ?_
    refine lv_iadd hx hb dL_law_879 ?_
    refine lv_topi (fun y_1039 ey_1039 => ?_)
    obtain rfl : y_1039 = 1 := ey_1039.trans (by decide)
    refine va_sld hx hb hX hbl hbA hS (zf_in (by decide) (by decide)) dL_law_880 ?_
    refine lv_topi (fun y_1040 ey_1040 => ?_)
    obtain rfl : a_3 = y_1040 := ea_3.trans ey_1040.symm
    refine lv_aload_n hx hb dL_law_881 rfl (lv_at hl 3 rfl) ?_
    refine lv_iload_n hx hb dL_law_882 rfl (lv_at hl 0 rfl) ?_
    refine lv_iconst (v := 2) hx hb dL_law_883 (by decide) ?_
    refine lv_iadd hx hb dL_law_884 ?_
    refine lv_topi (fun y_1041 ey_1041 => ?_)
    obtain rfl : y_1041 = 2 := ey_1041.trans (by decide)
    refine va_sld hx hb hX hbl hbA hS (zf_in (by decide) (by decide)) dL_law_885 ?_
    refine lv_topi (fun y_1042 ey_1042 => ?_)
    obtain rfl : a_6 = y_1042 := ea_6.trans ey_1042.symm
    skip
    refine zw_V (As := [.int a_3, .int a_6]) (rest := [.int 0]) (wr := [(mki, .inl (cI, 8, .inl (fun _ => 0))), (mpa, .inl (cI, 8, .inl (fun _ => 0))), (mta, .inl (cI, 8, .inl (fun _ => 0))), (mla, .inl (cI, 40, .inl (fun _ => 0))), (msl, .inl (cI, 40, .inl (fun _ => 0))), (mco, .inl (cI, 3, .inl (zL3 5 10 50))), (mhe, .inl (cI, 8, .inl (fun _ => 0))), (mso, .inl (cI, 8, .inl (fun _ => 0))), (msi, .inl (cI, 8, .inl (fun _ => 0))), (msh, .inl (cI, 8, .inl (fun _ => 0))), (mce, .inl (cJ, 1280, .inr (.inl (fun _ => 0)))), (mca, .inl (cJ, 160, .inr (.inl (fun _ => 0)))), (mwo, .inl (cI, 64, .inl fw_)), (mnu, .inl (cI, 10, .inl fn_)), (mte, .inl (cI, 3, .inl (fun _ => 0))), (mwa, .inl (cI, 130, .inl (fun _ => 0))), (mke, .inl (cI, 130, .inl (fun _ => 0))), (mma, .inl (cI, 3, .inl (fun _ => 0))), (mth, .inl (cI, 3, .inl (fun _ => 0))), (mtr, .inl (cI, 20, .inl (fun _ => 0)))]) ⟨hx, hb, hml, hown, hts⟩ (c_M_haste l D cI cJ cZ cP cS m0 mrf mki mpa mta mla msl mco mhe mso msi msh mce mca mwo mnu mte mwa mke mma mth mtr (a_3) (a_6)  H.size) (cwV 2 hts gq_98 rfl rfl rfl (by decide +kernel) ⟨Nat.le_of_ble_eq_true rfl, Nat.le_of_ble_eq_true rfl⟩) hK hN (hZ.kept hS) hP hD hS hA [0, 1] [2, 3, 4, 5, 6, 7, 8, 9, 10, 11, 12, 13, 14, 15, 16, 17, 18, 19, 20, 21] rfl rfl (by decide) (by decide) (by decide) (va_recv hK hP (ci := 8) (q0 := 0) rfl rfl) rfl hl.1 rfl (Nat.le_of_ble_eq_true rfl) dL_law_886 ⟨Nat.le_of_ble_eq_true rfl, Nat.le_of_ble_eq_true rfl⟩ (fun r_1043 u_1044 H locs hr_1043 hP hD hS => ?_)
    replace hP : va_P D vwCl [(mki, .inl (cI, 8, .inl (fun _ => 0))), (mpa, .inl (cI, 8, .inl (fun _ => 0))), (mta, .inl (cI, 8, .inl (fun _ => 0))), (mla, .inl (cI, 40, .inl (fun _ => 0))), (msl, .inl (cI, 40, .inl (fun _ => 0))), (mco, .inl (cI, 3, .inl (zL3 5 10 50))), (mhe, .inl (cI, 8, .inl (fun _ => 0))), (mso, .inl (cI, 8, .inl (fun _ => 0))), (msi, .inl (cI, 8, .inl (fun _ => 0))), (msh, .inl (cI, 8, .inl (fun _ => 0))), (mce, .inl (cJ, 1280, .inr (.inl (fun _ => 0)))), (mca, .inl (cJ, 160, .inr (.inl (fun _ => 0)))), (mwo, .inl (cI, 64, .inl fw_)), (mnu, .inl (cI, 10, .inl fn_)), (mte, .inl (cI, 3, .inl (fun _ => 0))), (mwa, .inl (cI, 130, .inl (fun _ => 0))), (mke, .inl (cI, 130, .inl (fun _ => 0))), (mma, .inl (cI, 3, .inl (fun _ => 0))), (mth, .inl (cI, 3, .inl (fun _ => 0))), (mtr, .inl (cI, 20, .inl (fun _ => 0)))] H := hP
    replace hD : va_D _ [(mki, .inl (cI, 8, .inl (fun _ => 0))), (mpa, .inl (cI, 8, .inl (fun _ => 0))), (mta, .inl (cI, 8, .inl (fun _ => 0))), (mla, .inl (cI, 40, .inl (fun _ => 0))), (msl, .inl (cI, 40, .inl (fun _ => 0))), (mco, .inl (cI, 3, .inl (zL3 5 10 50))), (mhe, .inl (cI, 8, .inl (fun _ => 0))), (mso, .inl (cI, 8, .inl (fun _ => 0))), (msi, .inl (cI, 8, .inl (fun _ => 0))), (msh, .inl (cI, 8, .inl (fun _ => 0))), (mce, .inl (cJ, 1280, .inr (.inl (fun _ => 0)))), (mca, .inl (cJ, 160, .inr (.inl (fun _ => 0)))), (mwo, .inl (cI, 64, .inl fw_)), (mnu, .inl (cI, 10, .inl fn_)), (mte, .inl (cI, 3, .inl (fun _ => 0))), (mwa, .inl (cI, 130, .inl (fun _ => 0))), (mke, .inl (cI, 130, .inl (fun _ => 0))), (mma, .inl (cI, 3, .inl (fun _ => 0))), (mth, .inl (cI, 3, .inl (fun _ => 0))), (mtr, .inl (cI, 20, .inl (fun _ => 0)))] := hD
    rcases hr_1043 with ⟨rfl, g_1045⟩ | ⟨rfl, g_1046, g_1047, g_1048⟩ | ⟨rfl, g_1049, g_1050, g_1051, g_1052⟩ | ⟨rfl, g_1053, g_1054, g_1055, g_1056, g_1057, g_1058⟩ | ⟨rfl, g_1059, g_1060, g_1061, g_1062, g_1063, g_1064⟩ | ⟨rfl, g_1065, g_1066, g_1067, g_1068, g_1069, g_1070⟩ | ⟨rfl, g_1071, g_1072, g_1073, g_1074, g_1075, g_1076⟩ | ⟨rfl, g_1077, g_1078, g_1079, g_1080, g_1081, g_1082⟩ | ⟨rfl, g_1083, g_1084, g_1085, g_1086, g_1087, g_1088⟩ | ⟨rfl, g_1089, g_1090, g_1091, g_1092, g_1093, g_1094⟩ | ⟨rfl, g_1095, g_1096, g_1097, g_1098, g_1099, g_1100⟩ | ⟨rfl, g_1101, g_1102, g_1103, g_1104, g_1105, g_1106⟩ | ⟨rfl, g_1107, g_1108, g_1109, g_1110, g_1111, g_1112⟩ | ⟨rfl, g_1113, g_1114⟩
    · exfalso; omega
    · exfalso; omega
    · exfalso; omega
    · exfalso; omega
    · exfalso; omega
    · exfalso; omega
    · exfalso; omega
    · exfalso; omega
    · exfalso; omega
    · exfalso; omega
    · exfalso; omega
    · refine lv_icmp_eq (tgt := 1371) hx hb dL_law_889 (by decide) (fun c_1115 => ?_) (fun c_1115 => ?_)
      · refine lv_iinc (v := 6) (lv' := [(3, .int 6), (2, .ref m0), (1, .ref x0), (0, .ref b)]) hx hb dL_law_1371 hl (k := 0) rfl (by decide) (by decide) rfl (fun ls hl => ?_)
        refine lv_goto (tgt := 18) hx hb dL_law_1374 (by decide) ?_
        refine lv_iload_n hx hb dL_law_18 rfl (lv_at hl 0 rfl) ?_
        refine lv_aload_n hx hb dL_law_19 rfl (lv_at hl 3 rfl) ?_
        refine va_slen hx hb hX hbl hbA hS dL_law_20 ?_
        refine lv_topi (fun y_1116 ey_1116 => ?_)
        obtain rfl : y_1116 = 6 := ey_1116.trans (by decide)
        refine lv_bipush (v := 6) hx hb dL_law_21 (by decide) ?_
        refine lv_isub hx hb dL_law_23 ?_
        refine lv_topi (fun y_1117 ey_1117 => ?_)
        obtain rfl : y_1117 = 0 := ey_1117.trans (by decide)
        refine lv_icmp_gt (tgt := 1377) hx hb dL_law_24 (by decide) (fun c_1118 => ?_) (fun c_1118 => ?_)
        · refine lv_iconst (v := 1) hx hb dL_law_1377 (by decide) ?_
          refine va_forget (fun q hq => hS.2.2 q hq) ?_
          refine W.widen (k := 600000) (n := 7302250) (Nat.le_of_ble_eq_true rfl) (Nat.le_of_ble_eq_true rfl) ?_
          exact lw_ret hx hb hr hlocks dL_law_1378
        · exact absurd c_1118 (by decide)
      · exact absurd c_1115 (by decide)
    · exfalso; omega
    · exfalso; omega
  · refine lv_aload_n hx hb dL_law_875 rfl (lv_at hl 1 rfl) ?_
    refine lv_aload_n hx hb dL_law_876 rfl (lv_at hl 3 rfl) ?_
    refine lv_iload_n hx hb dL_law_877 rfl (lv_at hl 0 rfl) ?_
    refine lv_iconst (v := 1) hx hb dL_law_878 (by decide) ?_
    refine lv_iadd hx hb dL_law_879 ?_
    refine lv_topi (fun y_1119 ey_1119 => ?_)
    obtain rfl : y_1119 = 1 := ey_1119.trans (by decide)
    refine va_sld hx hb hX hbl hbA hS (zf_in (by decide) (by decide)) dL_law_880 ?_
    refine lv_topi (fun y_1120 ey_1120 => ?_)
    obtain rfl : a_3 = y_1120 := ea_3.trans ey_1120.symm
    refine lv_aload_n hx hb dL_law_881 rfl (lv_at hl 3 rfl) ?_
    refine lv_iload_n hx hb dL_law_882 rfl (lv_at hl 0 rfl) ?_
    refine lv_iconst (v := 2) hx hb dL_law_883 (by decide) ?_
    refine lv_iadd hx hb dL_law_884 ?_
    refine lv_topi (fun y_1121 ey_1121 => ?_)
    obtain rfl : y_1121 = 2 := ey_1121.trans (by decide)
    refine va_sld hx hb hX hbl hbA hS (zf_in (by decide) (by decide)) dL_law_885 ?_
    refine lv_topi (fun y_1122 ey_1122 => ?_)
    obtain rfl : a_6 = y_1122 := ea_6.trans ey_1122.symm
    skip
    refine zw_V (As := [.int a_3, .int a_6]) (rest := [.int 0]) (wr := [(mki, .inl (cI, 8, .inl (fun _ => 0))), (mpa, .inl (cI, 8, .inl (fun _ => 0))), (mta, .inl (cI, 8, .inl (fun _ => 0))), (mla, .inl (cI, 40, .inl (fun _ => 0))), (msl, .inl (cI, 40, .inl (fun _ => 0))), (mco, .inl (cI, 3, .inl (zL3 5 10 50))), (mhe, .inl (cI, 8, .inl (fun _ => 0))), (mso, .inl (cI, 8, .inl (fun _ => 0))), (msi, .inl (cI, 8, .inl (fun _ => 0))), (msh, .inl (cI, 8, .inl (fun _ => 0))), (mce, .inl (cJ, 1280, .inr (.inl (fun _ => 0)))), (mca, .inl (cJ, 160, .inr (.inl (fun _ => 0)))), (mwo, .inl (cI, 64, .inl fw_)), (mnu, .inl (cI, 10, .inl fn_)), (mte, .inl (cI, 3, .inl (fun _ => 0))), (mwa, .inl (cI, 130, .inl (fun _ => 0))), (mke, .inl (cI, 130, .inl (fun _ => 0))), (mma, .inl (cI, 3, .inl (fun _ => 0))), (mth, .inl (cI, 3, .inl (fun _ => 0))), (mtr, .inl (cI, 20, .inl (fun _ => 0)))]) ⟨hx, hb, hml, hown, hts⟩ (c_M_haste l D cI cJ cZ cP cS m0 mrf mki mpa mta mla msl mco mhe mso msi msh mce mca mwo mnu mte mwa mke mma mth mtr (a_3) (a_6)  H.size) (cwV 2 hts gq_98 rfl rfl rfl (by decide +kernel) ⟨Nat.le_of_ble_eq_true rfl, Nat.le_of_ble_eq_true rfl⟩) hK hN (hZ.kept hS) hP hD hS hA [0, 1] [2, 3, 4, 5, 6, 7, 8, 9, 10, 11, 12, 13, 14, 15, 16, 17, 18, 19, 20, 21] rfl rfl (by decide) (by decide) (by decide) (va_recv hK hP (ci := 8) (q0 := 0) rfl rfl) rfl hl.1 rfl (Nat.le_of_ble_eq_true rfl) dL_law_886 ⟨Nat.le_of_ble_eq_true rfl, Nat.le_of_ble_eq_true rfl⟩ (fun r_1123 u_1124 H locs hr_1123 hP hD hS => ?_)
    replace hP : va_P D vwCl [(mki, .inl (cI, 8, .inl (fun _ => 0))), (mpa, .inl (cI, 8, .inl (fun _ => 0))), (mta, .inl (cI, 8, .inl (fun _ => 0))), (mla, .inl (cI, 40, .inl (fun _ => 0))), (msl, .inl (cI, 40, .inl (fun _ => 0))), (mco, .inl (cI, 3, .inl (zL3 5 10 50))), (mhe, .inl (cI, 8, .inl (fun _ => 0))), (mso, .inl (cI, 8, .inl (fun _ => 0))), (msi, .inl (cI, 8, .inl (fun _ => 0))), (msh, .inl (cI, 8, .inl (fun _ => 0))), (mce, .inl (cJ, 1280, .inr (.inl (fun _ => 0)))), (mca, .inl (cJ, 160, .inr (.inl (fun _ => 0)))), (mwo, .inl (cI, 64, .inl fw_)), (mnu, .inl (cI, 10, .inl fn_)), (mte, .inl (cI, 3, .inl (fun _ => 0))), (mwa, .inl (cI, 130, .inl (fun _ => 0))), (mke, .inl (cI, 130, .inl (fun _ => 0))), (mma, .inl (cI, 3, .inl (fun _ => 0))), (mth, .inl (cI, 3, .inl (fun _ => 0))), (mtr, .inl (cI, 20, .inl (fun _ => 0)))] H := hP
    replace hD : va_D _ [(mki, .inl (cI, 8, .inl (fun _ => 0))), (mpa, .inl (cI, 8, .inl (fun _ => 0))), (mta, .inl (cI, 8, .inl (fun _ => 0))), (mla, .inl (cI, 40, .inl (fun _ => 0))), (msl, .inl (cI, 40, .inl (fun _ => 0))), (mco, .inl (cI, 3, .inl (zL3 5 10 50))), (mhe, .inl (cI, 8, .inl (fun _ => 0))), (mso, .inl (cI, 8, .inl (fun _ => 0))), (msi, .inl (cI, 8, .inl (fun _ => 0))), (msh, .inl (cI, 8, .inl (fun _ => 0))), (mce, .inl (cJ, 1280, .inr (.inl (fun _ => 0)))), (mca, .inl (cJ, 160, .inr (.inl (fun _ => 0)))), (mwo, .inl (cI, 64, .inl fw_)), (mnu, .inl (cI, 10, .inl fn_)), (mte, .inl (cI, 3, .inl (fun _ => 0))), (mwa, .inl (cI, 130, .inl (fun _ => 0))), (mke, .inl (cI, 130, .inl (fun _ => 0))), (mma, .inl (cI, 3, .inl (fun _ => 0))), (mth, .inl (cI, 3, .inl (fun _ => 0))), (mtr, .inl (cI, 20, .inl (fun _ => 0)))] := hD
    rcases hr_1123 with ⟨rfl, g_1125⟩ | ⟨rfl, g_1126, g_1127, g_1128⟩ | ⟨rfl, g_1129, g_1130, g_1131, g_1132⟩ | ⟨rfl, g_1133, g_1134, g_1135, g_1136, g_1137, g_1138⟩ | ⟨rfl, g_1139, g_1140, g_1141, g_1142, g_1143, g_1144⟩ | ⟨rfl, g_1145, g_1146, g_1147, g_1148, g_1149, g_1150⟩ | ⟨rfl, g_1151, g_1152, g_1153, g_1154, g_1155, g_1156⟩ | ⟨rfl, g_1157, g_1158, g_1159, g_1160, g_1161, g_1162⟩ | ⟨rfl, g_1163, g_1164, g_1165, g_1166, g_1167, g_1168⟩ | ⟨rfl, g_1169, g_1170, g_1171, g_1172, g_1173, g_1174⟩ | ⟨rfl, g_1175, g_1176, g_1177, g_1178, g_1179, g_1180⟩ | ⟨rfl, g_1181, g_1182, g_1183, g_1184, g_1185, g_1186⟩ | ⟨rfl, g_1187, g_1188, g_1189, g_1190, g_1191, g_1192⟩ | ⟨rfl, g_1193, g_1194⟩
    · exfalso; omega
    · exfalso; omega
    · exfalso; omega
    · exfalso; omega
    · exfalso; omega
    · exfalso; omega
    · exfalso; omega
    · exfalso; omega
    · exfalso; omega
    · exfalso; omega
    · exfalso; omega
    · exfalso; omega
    · refine lv_icmp_eq (tgt := 1371) hx hb dL_law_889 (by decide) (fun c_1195 => ?_) (fun c_1195 => ?_)
      · refine lv_iinc (v := 6) (lv' := [(3, .int 6), (2, .ref m0), (1, .ref x0), (0, .ref b)]) hx hb dL_law_1371 hl (k := 0) rfl (by decide) (by decide) rfl (fun ls hl => ?_)
        refine lv_goto (tgt := 18) hx hb dL_law_1374 (by decide) ?_
        refine lv_iload_n hx hb dL_law_18 rfl (lv_at hl 0 rfl) ?_
        refine lv_aload_n hx hb dL_law_19 rfl (lv_at hl 3 rfl) ?_
        refine va_slen hx hb hX hbl hbA hS dL_law_20 ?_
        refine lv_topi (fun y_1196 ey_1196 => ?_)
        obtain rfl : y_1196 = 6 := ey_1196.trans (by decide)
        refine lv_bipush (v := 6) hx hb dL_law_21 (by decide) ?_
        refine lv_isub hx hb dL_law_23 ?_
        refine lv_topi (fun y_1197 ey_1197 => ?_)
        obtain rfl : y_1197 = 0 := ey_1197.trans (by decide)
        refine lv_icmp_gt (tgt := 1377) hx hb dL_law_24 (by decide) (fun c_1198 => ?_) (fun c_1198 => ?_)
        · refine lv_iconst (v := 1) hx hb dL_law_1377 (by decide) ?_
          refine va_forget (fun q hq => hS.2.2 q hq) ?_
          refine W.widen (k := 600000) (n := 7302250) (Nat.le_of_ble_eq_true rfl) (Nat.le_of_ble_eq_true rfl) ?_
          exact lw_ret hx hb hr hlocks dL_law_1378
        · exact absurd c_1198 (by decide)
      · exact absurd c_1195 (by decide)
    · exfalso; omega
