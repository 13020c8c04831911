set_option maxHeartbeats 8000000 in
set_option maxRecDepth 100000 in
theorem law_case_0 {p : Program} {l : Launch} {e : Env} {s : State} {m : MethodId} {below : List Frame} {meth : Method} {c : Code} {D : va_G} {cI cJ cZ cP cS : ClassId} {b : Nat} {xs_ : Nat → Int32} (x0 xs j0 k0 w0 rd mv xr z0 jp jc zl zs kz kp kc kzl kzs wk wl wc wp ri rl mb m0 mrf mki mpa mta mla msl mco mhe mso msi msh mce mca mwo mnu mte mwa mke mma mth mtr : Nat) (sh el : Nat → Nat) (fw_ fn_ : Nat → Int32) (C0 : lw_At p s m meth c b 6 xs_) (hK : va_K D vwCl (zKT cI cJ cZ cP cS) s) (hN : zN s) (hZ : zSt (fun q : Nat => s.heap.size ≤ q) s s.heap) (H : Heap) (locs : List Loc) (hP : va_P D vwCl (zLW cI cJ cZ cP cS x0 xs j0 k0 w0 rd mv xr z0 jp jc zl zs kz kp kc kzl kzs wk wl wc wp ri rl mb m0 mrf mki mpa mta mla msl mco mhe mso msi msh mce mca mwo mnu mte mwa mke mma mth mtr sh el fw_ fn_) H) (hD : va_D (fun q : Nat => s.heap.size ≤ q) (zLW cI cJ cZ cP cS x0 xs j0 k0 w0 rd mv xr z0 jp jc zl zs kz kp kc kzl kzs wk wl wc wp ri rl mb m0 mrf mki mpa mta mla msl mco mhe mso msi msh mce mca mwo mnu mte mwa mke mma mth mtr sh el fw_ fn_)) (hS : va_S (fun q : Nat => s.heap.size ≤ q) s.heap H locs) (ls : Array Slot) (hl : lv_has ls 4 [(3, .int 0), (2, .ref m0), (1, .ref x0), (0, .ref b)]) : W p l e room_1 s m #[Value.ref b] below meth c H locs 100 10000 (lw_Z below #[Value.ref b] s) (F0 m 200 ls []) := by
  obtain ⟨hx, hb, hr, hml, hown0, hts, hX, hbl, hlocks, hgv⟩ := id C0
  have hown : s.vm.findClass RL = some m.cls := hown0
  have hA : ∀ q : Nat, s.heap.size ≤ q → (fun q : Nat => s.heap.size ≤ q) q := fun _ h => h
  have hbA : ¬ (fun q : Nat => s.heap.size ≤ q) b := Nat.not_le.mpr hbl
  replace hP : va_P D vwCl ((x0, .inr (7, [.ref xs, .ref j0, .ref k0, .ref w0, .ref rd, .ref mv, .ref xr, .int 0, .int (-1)])) :: (xs, .inl (cS, 8, .inr (.inr (.inr (.inr (zS sh)))))) :: (j0, .inr (0, [.ref z0, .ref jp, .ref jc, .int 0, .int 0, .int 0, .int 60, .int 0, .int 1])) :: (z0, .inr (6, [.ref zl, .ref zs, .int 20, .int 0, .int 3])) :: (zl, .inl (cZ, 40, .inl (fun _ => 0))) :: (zs, .inl (cI, 40, .inl (fun _ => 0))) :: (jp, .inl (cP, 8, .inr (.inr (.inr (.inr (fun _ => none)))))) :: (jc, .inl (cI, 3, .inl (zL3 5 10 50))) :: (k0, .inr (0, [.ref kz, .ref kp, .ref kc, .int 0, .int 0, .int 0, .int 60, .int 0, .int 1])) :: (kz, .inr (6, [.ref kzl, .ref kzs, .int 20, .int 0, .int 3])) :: (kzl, .inl (cZ, 40, .inl (fun _ => 0))) :: (kzs, .inl (cI, 40, .inl (fun _ => 0))) :: (kp, .inl (cP, 8, .inr (.inr (.inr (.inr (fun _ => none)))))) :: (kc, .inl (cI, 3, .inl (zL3 5 10 50))) :: (w0, .inr (5, [.ref wk, .ref wl, .ref wc, .ref wp, .int 0, .int 0, .int 0])) :: (wk, .inl (cI, 125, .inl (fun _ => 0))) :: (wl, .inl (cI, 125, .inl (fun _ => 0))) :: (wc, .inl (cI, 3, .inl (fun _ => 0))) :: (wp, .inl (cP, 8, .inr (.inr (.inr (.inr (fun _ => none)))))) :: (rd, .inr (3, [.ref ri, .ref rl, .int 0, .int 0, .int 0, .int (-1), .int 0, .int 0])) :: (ri, .inl (cI, 132, .inl (fun _ => 0))) :: (rl, .inl (cI, 160, .inl (fun _ => 0))) :: (mv, .inr (1, [.ref mb, .int 0, .int 0, .int 0, .int 0])) :: (mb, .inl (cI, 20, .inl (fun _ => 0))) :: (xr, .inl (cI, 8, .inl (fun _ => 0))) :: ((sh 0), .inr (4, [.ref (el 0), .int (-1), .int 0])) :: ((el 0), .inl (cJ, 160, .inr (.inl (fun _ => 0)))) :: ((sh 1), .inr (4, [.ref (el 1), .int (-1), .int 0])) :: ((el 1), .inl (cJ, 160, .inr (.inl (fun _ => 0)))) :: ((sh 2), .inr (4, [.ref (el 2), .int (-1), .int 0])) :: ((el 2), .inl (cJ, 160, .inr (.inl (fun _ => 0)))) :: ((sh 3), .inr (4, [.ref (el 3), .int (-1), .int 0])) :: ((el 3), .inl (cJ, 160, .inr (.inl (fun _ => 0)))) :: ((sh 4), .inr (4, [.ref (el 4), .int (-1), .int 0])) :: ((el 4), .inl (cJ, 160, .inr (.inl (fun _ => 0)))) :: ((sh 5), .inr (4, [.ref (el 5), .int (-1), .int 0])) :: ((el 5), .inl (cJ, 160, .inr (.inl (fun _ => 0)))) :: ((sh 6), .inr (4, [.ref (el 6), .int (-1), .int 0])) :: ((el 6), .inl (cJ, 160, .inr (.inl (fun _ => 0)))) :: ((sh 7), .inr (4, [.ref (el 7), .int (-1), .int 0])) :: ((el 7), .inl (cJ, 160, .inr (.inl (fun _ => 0)))) :: (m0, .inr (8, (.int 0 :: .int 20 :: .int 0 :: .int 0 :: .int 0 :: .int 60 :: .int 0 :: .int 3 :: .int 1 :: .int (-1) :: .ref mrf :: .ref mki :: .ref mpa :: .ref mta :: .ref mla :: .ref msl :: .ref mco :: .ref mhe :: .ref mso :: .ref msi :: .ref msh :: .ref mce :: .ref mca :: .ref mwo :: .ref mnu :: .ref mte :: .int 0 :: .int 0 :: .int 0 :: .int 0 :: .int 0 :: .ref mwa :: .ref mke :: .ref mma :: .ref mth :: .ref mtr :: .int 0 :: .int 0 :: []))) :: (mrf, .inl (cI, 8, .inl (fun _ => 0))) :: (mki, .inl (cI, 8, .inl (fun _ => 0))) :: (mpa, .inl (cI, 8, .inl (fun _ => 0))) :: (mta, .inl (cI, 8, .inl (fun _ => 0))) :: (mla, .inl (cI, 40, .inl (fun _ => 0))) :: (msl, .inl (cI, 40, .inl (fun _ => 0))) :: (mco, .inl (cI, 3, .inl (zL3 5 10 50))) :: (mhe, .inl (cI, 8, .inl (fun _ => 0))) :: (mso, .inl (cI, 8, .inl (fun _ => 0))) :: (msi, .inl (cI, 8, .inl (fun _ => 0))) :: (msh, .inl (cI, 8, .inl (fun _ => 0))) :: (mce, .inl (cJ, 1280, .inr (.inl (fun _ => 0)))) :: (mca, .inl (cJ, 160, .inr (.inl (fun _ => 0)))) :: (mwo, .inl (cI, 64, .inl fw_)) :: (mnu, .inl (cI, 10, .inl fn_)) :: (mte, .inl (cI, 3, .inl (fun _ => 0))) :: (mwa, .inl (cI, 130, .inl (fun _ => 0))) :: (mke, .inl (cI, 130, .inl (fun _ => 0))) :: (mma, .inl (cI, 3, .inl (fun _ => 0))) :: (mth, .inl (cI, 3, .inl (fun _ => 0))) :: (mtr, .inl (cI, 20, .inl (fun _ => 0))) :: []) H := hP
  replace hD : va_D _ ((x0, .inr (7, [.ref xs, .ref j0, .ref k0, .ref w0, .ref rd, .ref mv, .ref xr, .int 0, .int (-1)])) :: (xs, .inl (cS, 8, .inr (.inr (.inr (.inr (zS sh)))))) :: (j0, .inr (0, [.ref z0, .ref jp, .ref jc, .int 0, .int 0, .int 0, .int 60, .int 0, .int 1])) :: (z0, .inr (6, [.ref zl, .ref zs, .int 20, .int 0, .int 3])) :: (zl, .inl (cZ, 40, .inl (fun _ => 0))) :: (zs, .inl (cI, 40, .inl (fun _ => 0))) :: (jp, .inl (cP, 8, .inr (.inr (.inr (.inr (fun _ => none)))))) :: (jc, .inl (cI, 3, .inl (zL3 5 10 50))) :: (k0, .inr (0, [.ref kz, .ref kp, .ref kc, .int 0, .int 0, .int 0, .int 60, .int 0, .int 1])) :: (kz, .inr (6, [.ref kzl, .ref kzs, .int 20, .int 0, .int 3])) :: (kzl, .inl (cZ, 40, .inl (fun _ => 0))) :: (kzs, .inl (cI, 40, .inl (fun _ => 0))) :: (kp, .inl (cP, 8, .inr (.inr (.inr (.inr (fun _ => none)))))) :: (kc, .inl (cI, 3, .inl (zL3 5 10 50))) :: (w0, .inr (5, [.ref wk, .ref wl, .ref wc, .ref wp, .int 0, .int 0, .int 0])) :: (wk, .inl (cI, 125, .inl (fun _ => 0))) :: (wl, .inl (cI, 125, .inl (fun _ => 0))) :: (wc, .inl (cI, 3, .inl (fun _ => 0))) :: (wp, .inl (cP, 8, .inr (.inr (.inr (.inr (fun _ => none)))))) :: (rd, .inr (3, [.ref ri, .ref rl, .int 0, .int 0, .int 0, .int (-1), .int 0, .int 0])) :: (ri, .inl (cI, 132, .inl (fun _ => 0))) :: (rl, .inl (cI, 160, .inl (fun _ => 0))) :: (mv, .inr (1, [.ref mb, .int 0, .int 0, .int 0, .int 0])) :: (mb, .inl (cI, 20, .inl (fun _ => 0))) :: (xr, .inl (cI, 8, .inl (fun _ => 0))) :: ((sh 0), .inr (4, [.ref (el 0), .int (-1), .int 0])) :: ((el 0), .inl (cJ, 160, .inr (.inl (fun _ => 0)))) :: ((sh 1), .inr (4, [.ref (el 1), .int (-1), .int 0])) :: ((el 1), .inl (cJ, 160, .inr (.inl (fun _ => 0)))) :: ((sh 2), .inr (4, [.ref (el 2), .int (-1), .int 0])) :: ((el 2), .inl (cJ, 160, .inr (.inl (fun _ => 0)))) :: ((sh 3), .inr (4, [.ref (el 3), .int (-1), .int 0])) :: ((el 3), .inl (cJ, 160, .inr (.inl (fun _ => 0)))) :: ((sh 4), .inr (4, [.ref (el 4), .int (-1), .int 0])) :: ((el 4), .inl (cJ, 160, .inr (.inl (fun _ => 0)))) :: ((sh 5), .inr (4, [.ref (el 5), .int (-1), .int 0])) :: ((el 5), .inl (cJ, 160, .inr (.inl (fun _ => 0)))) :: ((sh 6), .inr (4, [.ref (el 6), .int (-1), .int 0])) :: ((el 6), .inl (cJ, 160, .inr (.inl (fun _ => 0)))) :: ((sh 7), .inr (4, [.ref (el 7), .int (-1), .int 0])) :: ((el 7), .inl (cJ, 160, .inr (.inl (fun _ => 0)))) :: (m0, .inr (8, (.int 0 :: .int 20 :: .int 0 :: .int 0 :: .int 0 :: .int 60 :: .int 0 :: .int 3 :: .int 1 :: .int (-1) :: .ref mrf :: .ref mki :: .ref mpa :: .ref mta :: .ref mla :: .ref msl :: .ref mco :: .ref mhe :: .ref mso :: .ref msi :: .ref msh :: .ref mce :: .ref mca :: .ref mwo :: .ref mnu :: .ref mte :: .int 0 :: .int 0 :: .int 0 :: .int 0 :: .int 0 :: .ref mwa :: .ref mke :: .ref mma :: .ref mth :: .ref mtr :: .int 0 :: .int 0 :: []))) :: (mrf, .inl (cI, 8, .inl (fun _ => 0))) :: (mki, .inl (cI, 8, .inl (fun _ => 0))) :: (mpa, .inl (cI, 8, .inl (fun _ => 0))) :: (mta, .inl (cI, 8, .inl (fun _ => 0))) :: (mla, .inl (cI, 40, .inl (fun _ => 0))) :: (msl, .inl (cI, 40, .inl (fun _ => 0))) :: (mco, .inl (cI, 3, .inl (zL3 5 10 50))) :: (mhe, .inl (cI, 8, .inl (fun _ => 0))) :: (mso, .inl (cI, 8, .inl (fun _ => 0))) :: (msi, .inl (cI, 8, .inl (fun _ => 0))) :: (msh, .inl (cI, 8, .inl (fun _ => 0))) :: (mce, .inl (cJ, 1280, .inr (.inl (fun _ => 0)))) :: (mca, .inl (cJ, 160, .inr (.inl (fun _ => 0)))) :: (mwo, .inl (cI, 64, .inl fw_)) :: (mnu, .inl (cI, 10, .inl fn_)) :: (mte, .inl (cI, 3, .inl (fun _ => 0))) :: (mwa, .inl (cI, 130, .inl (fun _ => 0))) :: (mke, .inl (cI, 130, .inl (fun _ => 0))) :: (mma, .inl (cI, 3, .inl (fun _ => 0))) :: (mth, .inl (cI, 3, .inl (fun _ => 0))) :: (mtr, .inl (cI, 20, .inl (fun _ => 0))) :: []) := hD
  refine lv_aload_n hx hb dL_law_200 rfl (lv_at hl 2 rfl) ?_
  refine lv_aload_n hx hb dL_law_201 rfl (lv_at hl 3 rfl) ?_
  refine lv_iload_n hx hb dL_law_202 rfl (lv_at hl 0 rfl) ?_
  refine lv_iconst (v := 1) hx hb dL_law_203 (by decide) ?_
  refine lv_iadd hx hb dL_law_204 ?_
  refine lv_topi (fun y_1 ey_1 => ?_)
  obtain rfl : y_1 = 1 := ey_1.trans (by decide)
  refine va_sld hx hb hX hbl hbA hS (zf_in (by decide) (by decide)) dL_law_205 ?_
  refine lv_topi (fun a_3 ea_3 => ?_)
  refine lv_aload_n hx hb dL_law_206 rfl (lv_at hl 3 rfl) ?_
  refine lv_iload_n hx hb dL_law_207 rfl (lv_at hl 0 rfl) ?_
  refine lv_iconst (v := 2) hx hb dL_law_208 (by decide) ?_
  refine lv_iadd hx hb dL_law_209 ?_
  refine lv_topi (fun y_4 ey_4 => ?_)
  obtain rfl : y_4 = 2 := ey_4.trans (by decide)
  refine va_sld hx hb hX hbl hbA hS (zf_in (by decide) (by decide)) dL_law_210 ?_
  refine lv_topi (fun a_6 ea_6 => ?_)
  refine lv_aload_n hx hb dL_law_211 rfl (lv_at hl 3 rfl) ?_
  refine lv_iload_n hx hb dL_law_212 rfl (lv_at hl 0 rfl) ?_
  refine lv_iconst (v := 3) hx hb dL_law_213 (by decide) ?_
  refine lv_iadd hx hb dL_law_214 ?_
  refine lv_topi (fun y_7 ey_7 => ?_)
  obtain rfl : y_7 = 3 := ey_7.trans (by decide)
  refine va_sld hx hb hX hbl hbA hS (zf_in (by decide) (by decide)) dL_law_215 ?_
  refine lv_topi (fun a_9 ea_9 => ?_)
  skip
  refine zw_V (As := [.int a_3, .int a_6, .int a_9]) (rest := []) (wr := ((m0, .inr (8, (.int 0 :: .int 20 :: .int 0 :: .int 0 :: .int 0 :: .int 60 :: .int 0 :: .int 3 :: .int 1 :: .int (-1) :: .ref mrf :: .ref mki :: .ref mpa :: .ref mta :: .ref mla :: .ref msl :: .ref mco :: .ref mhe :: .ref mso :: .ref msi :: .ref msh :: .ref mce :: .ref mca :: .ref mwo :: .ref mnu :: .ref mte :: .int 0 :: .int 0 :: .int 0 :: .int 0 :: .int 0 :: .ref mwa :: .ref mke :: .ref mma :: .ref mth :: .ref mtr :: .int 0 :: .int 0 :: []))) :: (mrf, .inl (cI, 8, .inl (fun _ => 0))) :: (mki, .inl (cI, 8, .inl (fun _ => 0))) :: (mpa, .inl (cI, 8, .inl (fun _ => 0))) :: (mta, .inl (cI, 8, .inl (fun _ => 0))) :: (mla, .inl (cI, 40, .inl (fun _ => 0))) :: (msl, .inl (cI, 40, .inl (fun _ => 0))) :: (mco, .inl (cI, 3, .inl (zL3 5 10 50))) :: (mhe, .inl (cI, 8, .inl (fun _ => 0))) :: (mso, .inl (cI, 8, .inl (fun _ => 0))) :: (msi, .inl (cI, 8, .inl (fun _ => 0))) :: (msh, .inl (cI, 8, .inl (fun _ => 0))) :: (mce, .inl (cJ, 1280, .inr (.inl (fun _ => 0)))) :: (mca, .inl (cJ, 160, .inr (.inl (fun _ => 0)))) :: (mwo, .inl (cI, 64, .inl fw_)) :: (mnu, .inl (cI, 10, .inl fn_)) :: (mte, .inl (cI, 3, .inl (fun _ => 0))) :: (mwa, .inl (cI, 130, .inl (fun _ => 0))) :: (mke, .inl (cI, 130, .inl (fun _ => 0))) :: (mma, .inl (cI, 3, .inl (fun _ => 0))) :: (mth, .inl (cI, 3, .inl (fun _ => 0))) :: (mtr, .inl (cI, 20, .inl (fun _ => 0))) :: [])) ⟨hx, hb, hml, hown, hts⟩ (c_row l D cI cJ cZ cP cS x0 xs j0 k0 w0 rd mv xr sh el (a_3) (a_6) (a_9)  H.size) (cwV 3 hts gq_13 rfl rfl rfl (by decide +kernel) ⟨Nat.le_of_ble_eq_true rfl, Nat.le_of_ble_eq_true rfl⟩) hK hN (hZ.kept hS) hP hD hS hA [0, 24, 1, 25, 27, 29, 31, 33, 35, 37, 39, 26, 28, 30, 32, 34, 36, 38, 40] [41, 42, 43, 44, 45, 46, 47, 48, 49, 50, 51, 52, 53, 54, 55, 56, 57, 58, 59, 60, 61, 62] rfl rfl (by decide) (by decide) (by decide) (va_recv hK hP (ci := 7) (q0 := 0) rfl rfl) rfl hl.1 rfl (Nat.le_of_ble_eq_true rfl) dL_law_216 ⟨Nat.le_of_ble_eq_true rfl, Nat.le_of_ble_eq_true rfl⟩ (fun r_10 u_11 H locs hr_10 hP hD hS => ?_)
  replace hP : va_P D vwCl ((m0, .inr (8, (.int 0 :: .int 20 :: .int 0 :: .int 0 :: .int 0 :: .int 60 :: .int 0 :: .int 3 :: .int 1 :: .int (-1) :: .ref mrf :: .ref mki :: .ref mpa :: .ref mta :: .ref mla :: .ref msl :: .ref mco :: .ref mhe :: .ref mso :: .ref msi :: .ref msh :: .ref mce :: .ref mca :: .ref mwo :: .ref mnu :: .ref mte :: .int 0 :: .int 0 :: .int 0 :: .int 0 :: .int 0 :: .ref mwa :: .ref mke :: .ref mma :: .ref mth :: .ref mtr :: .int 0 :: .int 0 :: []))) :: (mrf, .inl (cI, 8, .inl (fun _ => 0))) :: (mki, .inl (cI, 8, .inl (fun _ => 0))) :: (mpa, .inl (cI, 8, .inl (fun _ => 0))) :: (mta, .inl (cI, 8, .inl (fun _ => 0))) :: (mla, .inl (cI, 40, .inl (fun _ => 0))) :: (msl, .inl (cI, 40, .inl (fun _ => 0))) :: (mco, .inl (cI, 3, .inl (zL3 5 10 50))) :: (mhe, .inl (cI, 8, .inl (fun _ => 0))) :: (mso, .inl (cI, 8, .inl (fun _ => 0))) :: (msi, .inl (cI, 8, .inl (fun _ => 0))) :: (msh, .inl (cI, 8, .inl (fun _ => 0))) :: (mce, .inl (cJ, 1280, .inr (.inl (fun _ => 0)))) :: (mca, .inl (cJ, 160, .inr (.inl (fun _ => 0)))) :: (mwo, .inl (cI, 64, .inl fw_)) :: (mnu, .inl (cI, 10, .inl fn_)) :: (mte, .inl (cI, 3, .inl (fun _ => 0))) :: (mwa, .inl (cI, 130, .inl (fun _ => 0))) :: (mke, .inl (cI, 130, .inl (fun _ => 0))) :: (mma, .inl (cI, 3, .inl (fun _ => 0))) :: (mth, .inl (cI, 3, .inl (fun _ => 0))) :: (mtr, .inl (cI, 20, .inl (fun _ => 0))) :: []) H := hP
  replace hD : va_D _ ((m0, .inr (8, (.int 0 :: .int 20 :: .int 0 :: .int 0 :: .int 0 :: .int 60 :: .int 0 :: .int 3 :: .int 1 :: .int (-1) :: .ref mrf :: .ref mki :: .ref mpa :: .ref mta :: .ref mla :: .ref msl :: .ref mco :: .ref mhe :: .ref mso :: .ref msi :: .ref msh :: .ref mce :: .ref mca :: .ref mwo :: .ref mnu :: .ref mte :: .int 0 :: .int 0 :: .int 0 :: .int 0 :: .int 0 :: .ref mwa :: .ref mke :: .ref mma :: .ref mth :: .ref mtr :: .int 0 :: .int 0 :: []))) :: (mrf, .inl (cI, 8, .inl (fun _ => 0))) :: (mki, .inl (cI, 8, .inl (fun _ => 0))) :: (mpa, .inl (cI, 8, .inl (fun _ => 0))) :: (mta, .inl (cI, 8, .inl (fun _ => 0))) :: (mla, .inl (cI, 40, .inl (fun _ => 0))) :: (msl, .inl (cI, 40, .inl (fun _ => 0))) :: (mco, .inl (cI, 3, .inl (zL3 5 10 50))) :: (mhe, .inl (cI, 8, .inl (fun _ => 0))) :: (mso, .inl (cI, 8, .inl (fun _ => 0))) :: (msi, .inl (cI, 8, .inl (fun _ => 0))) :: (msh, .inl (cI, 8, .inl (fun _ => 0))) :: (mce, .inl (cJ, 1280, .inr (.inl (fun _ => 0)))) :: (mca, .inl (cJ, 160, .inr (.inl (fun _ => 0)))) :: (mwo, .inl (cI, 64, .inl fw_)) :: (mnu, .inl (cI, 10, .inl fn_)) :: (mte, .inl (cI, 3, .inl (fun _ => 0))) :: (mwa, .inl (cI, 130, .inl (fun _ => 0))) :: (mke, .inl (cI, 130, .inl (fun _ => 0))) :: (mma, .inl (cI, 3, .inl (fun _ => 0))) :: (mth, .inl (cI, 3, .inl (fun _ => 0))) :: (mtr, .inl (cI, 20, .inl (fun _ => 0))) :: []) := hD
  rcases hr_10 with ⟨rfl, g_12⟩ | ⟨rfl, g_13, g_14⟩ | ⟨rfl, g_15, g_16, g_17, g_18⟩ | ⟨rfl, g_19, g_20, g_21, g_22, g_23⟩ | ⟨rfl, g_24, g_25, g_26, g_27, g_28, g_29⟩ | ⟨rfl, g_30, g_31, g_32, g_33, g_34, g_35⟩ | ⟨rfl, g_36, g_37, g_38⟩
  · refine lv_aload_n hx hb dL_law_219 rfl (lv_at hl 1 rfl) ?_
    refine lv_aload_n hx hb dL_law_220 rfl (lv_at hl 3 rfl) ?_
    refine lv_iload_n hx hb dL_law_221 rfl (lv_at hl 0 rfl) ?_
    refine lv_iconst (v := 1) hx hb dL_law_222 (by decide) ?_
    refine lv_iadd hx hb dL_law_223 ?_
    refine lv_topi (fun y_39 ey_39 => ?_)
    obtain rfl : y_39 = 1 := ey_39.trans (by decide)
    refine va_sld hx hb hX hbl hbA hS (zf_in (by decide) (by decide)) dL_law_224 ?_
    refine lv_topi (fun y_40 ey_40 => ?_)
    obtain rfl : a_3 = y_40 := ea_3.trans ey_40.symm
    refine lv_aload_n hx hb dL_law_225 rfl (lv_at hl 3 rfl) ?_
    refine lv_iload_n hx hb dL_law_226 rfl (lv_at hl 0 rfl) ?_
    refine lv_iconst (v := 2) hx hb dL_law_227 (by decide) ?_
    refine lv_iadd hx hb dL_law_228 ?_
    refine lv_topi (fun y_41 ey_41 => ?_)
    obtain rfl : y_41 = 2 := ey_41.trans (by decide)
    refine va_sld hx hb hX hbl hbA hS (zf_in (by decide) (by decide)) dL_law_229 ?_
    refine lv_topi (fun y_42 ey_42 => ?_)
    obtain rfl : a_6 = y_42 := ea_6.trans ey_42.symm
    refine lv_aload_n hx hb dL_law_230 rfl (lv_at hl 3 rfl) ?_
    refine lv_iload_n hx hb dL_law_231 rfl (lv_at hl 0 rfl) ?_
    refine lv_iconst (v := 3) hx hb dL_law_232 (by decide) ?_
    refine lv_iadd hx hb dL_law_233 ?_
    refine lv_topi (fun y_43 ey_43 => ?_)
    obtain rfl : y_43 = 3 := ey_43.trans (by decide)
    refine va_sld hx hb hX hbl hbA hS (zf_in (by decide) (by decide)) dL_law_234 ?_
    refine lv_topi (fun y_44 ey_44 => ?_)
    obtain rfl : a_9 = y_44 := ea_9.trans ey_44.symm
    skip
    refine zw_V (As := [.int a_3, .int a_6, .int a_9]) (rest := [.int (-1)]) (wr := [(mki, .inl (cI, 8, .inl (fun _ => 0))), (mpa, .inl (cI, 8, .inl (fun _ => 0))), (mta, .inl (cI, 8, .inl (fun _ => 0))), (mla, .inl (cI, 40, .inl (fun _ => 0))), (msl, .inl (cI, 40, .inl (fun _ => 0))), (mco, .inl (cI, 3, .inl (zL3 5 10 50))), (msh, .inl (cI, 8, .inl (fun _ => 0))), (mca, .inl (cJ, 160, .inr (.inl (fun _ => 0)))), (mwo, .inl (cI, 64, .inl fw_)), (mnu, .inl (cI, 10, .inl fn_)), (mte, .inl (cI, 3, .inl (fun _ => 0))), (mwa, .inl (cI, 130, .inl (fun _ => 0))), (mke, .inl (cI, 130, .inl (fun _ => 0))), (mma, .inl (cI, 3, .inl (fun _ => 0))), (mth, .inl (cI, 3, .inl (fun _ => 0))), (mtr, .inl (cI, 20, .inl (fun _ => 0)))]) ⟨hx, hb, hml, hown, hts⟩ (c_M_row l D cI cJ cZ cP cS m0 mrf mki mpa mta mla msl mco mhe mso msi msh mce mca mwo mnu mte mwa mke mma mth mtr (a_3) (a_6) (a_9)  H.size) (cwV 3 hts gq_17 rfl rfl rfl (by decide +kernel) ⟨Nat.le_of_ble_eq_true rfl, Nat.le_of_ble_eq_true rfl⟩) hK hN (hZ.kept hS) hP hD hS hA [0, 1, 8, 9, 10, 12] [2, 3, 4, 5, 6, 7, 11, 13, 14, 15, 16, 17, 18, 19, 20, 21] rfl rfl (by decide) (by decide) (by decide) (va_recv hK hP (ci := 8) (q0 := 0) rfl rfl) rfl hl.1 rfl (Nat.le_of_ble_eq_true rfl) dL_law_235 ⟨Nat.le_of_ble_eq_true rfl, Nat.le_of_ble_eq_true rfl⟩ (fun r_45 u_46 H locs hr_45 hP hD hS => ?_)
    replace hP : va_P D vwCl [(mki, .inl (cI, 8, .inl (fun _ => 0))), (mpa, .inl (cI, 8, .inl (fun _ => 0))), (mta, .inl (cI, 8, .inl (fun _ => 0))), (mla, .inl (cI, 40, .inl (fun _ => 0))), (msl, .inl (cI, 40, .inl (fun _ => 0))), (mco, .inl (cI, 3, .inl (zL3 5 10 50))), (msh, .inl (cI, 8, .inl (fun _ => 0))), (mca, .inl (cJ, 160, .inr (.inl (fun _ => 0)))), (mwo, .inl (cI, 64, .inl fw_)), (mnu, .inl (cI, 10, .inl fn_)), (mte, .inl (cI, 3, .inl (fun _ => 0))), (mwa, .inl (cI, 130, .inl (fun _ => 0))), (mke, .inl (cI, 130, .inl (fun _ => 0))), (mma, .inl (cI, 3, .inl (fun _ => 0))), (mth, .inl (cI, 3, .inl (fun _ => 0))), (mtr, .inl (cI, 20, .inl (fun _ => 0)))] H := hP
    replace hD : va_D _ [(mki, .inl (cI, 8, .inl (fun _ => 0))), (mpa, .inl (cI, 8, .inl (fun _ => 0))), (mta, .inl (cI, 8, .inl (fun _ => 0))), (mla, .inl (cI, 40, .inl (fun _ => 0))), (msl, .inl (cI, 40, .inl (fun _ => 0))), (mco, .inl (cI, 3, .inl (zL3 5 10 50))), (msh, .inl (cI, 8, .inl (fun _ => 0))), (mca, .inl (cJ, 160, .inr (.inl (fun _ => 0)))), (mwo, .inl (cI, 64, .inl fw_)), (mnu, .inl (cI, 10, .inl fn_)), (mte, .inl (cI, 3, .inl (fun _ => 0))), (mwa, .inl (cI, 130, .inl (fun _ => 0))), (mke, .inl (cI, 130, .inl (fun _ => 0))), (mma, .inl (cI, 3, .inl (fun _ => 0))), (mth, .inl (cI, 3, .inl (fun _ => 0))), (mtr, .inl (cI, 20, .inl (fun _ => 0)))] := hD
    rcases hr_45 with ⟨rfl, g_47⟩ | ⟨rfl, g_48, g_49⟩ | ⟨rfl, g_50, g_51, g_52, g_53⟩ | ⟨rfl, g_54, g_55, g_56, g_57, g_58, g_59⟩ | ⟨rfl, g_60, g_61, g_62, g_63, g_64, g_65⟩ | ⟨rfl, g_66, g_67, g_68, g_69, g_70⟩ | ⟨rfl, g_71, g_72, g_73⟩
    · refine lv_icmp_eq (tgt := 1371) hx hb dL_law_238 (by decide) (fun c_74 => ?_) (fun c_74 => ?_)
      · refine lv_iinc (v := 6) (lv' := [(3, .int 6), (2, .ref m0), (1, .ref x0), (0, .ref b)]) hx hb dL_law_1371 hl (k := 0) rfl (by decide) (by decide) rfl (fun ls hl => ?_)
        refine lv_goto (tgt := 18) hx hb dL_law_1374 (by decide) ?_
        refine lv_iload_n hx hb dL_law_18 rfl (lv_at hl 0 rfl) ?_
        refine lv_aload_n hx hb dL_law_19 rfl (lv_at hl 3 rfl) ?_
        refine va_slen hx hb hX hbl hbA hS dL_law_20 ?_
        refine lv_topi (fun y_75 ey_75 => ?_)
        obtain rfl : y_75 = 6 := ey_75.trans (by decide)
        refine lv_bipush (v := 6) hx hb dL_law_21 (by decide) ?_
        refine lv_isub hx hb dL_law_23 ?_
        refine lv_topi (fun y_76 ey_76 => ?_)
        obtain rfl : y_76 = 0 := ey_76.trans (by decide)
        refine lv_icmp_gt (tgt := 1377) hx hb dL_law_24 (by decide) (fun c_77 => ?_) (fun c_77 => ?_)
        · refine lv_iconst (v := 1) hx hb dL_law_1377 (by decide) ?_
          refine va_forget (fun q hq => hS.2.2 q hq) ?_
          refine W.widen (k := 600000) (n := 7302250) (Nat.le_of_ble_eq_true rfl) (Nat.le_of_ble_eq_true rfl) ?_
          exact lw_ret hx hb hr hlocks dL_law_1378
        · exact absurd c_77 (by decide)
      · exact absurd c_74 (by decide)
    · exfalso; omega
    · exfalso; omega
    · exfalso; omega
    · exfalso; omega
    · exfalso; omega
    · exfalso; omega
  · refine lv_aload_n hx hb dL_law_219 rfl (lv_at hl 1 rfl) ?_
    refine lv_aload_n hx hb dL_law_220 rfl (lv_at hl 3 rfl) ?_
    refine lv_iload_n hx hb dL_law_221 rfl (lv_at hl 0 rfl) ?_
    refine lv_iconst (v := 1) hx hb dL_law_222 (by decide) ?_
    refine lv_iadd hx hb dL_law_223 ?_
    refine lv_topi (fun y_78 ey_78 => ?_)
    obtain rfl : y_78 = 1 := ey_78.trans (by decide)
    refine va_sld hx hb hX hbl hbA hS (zf_in (by decide) (by decide)) dL_law_224 ?_
    refine lv_topi (fun y_79 ey_79 => ?_)
    obtain rfl : a_3 = y_79 := ea_3.trans ey_79.symm
    refine lv_aload_n hx hb dL_law_225 rfl (lv_at hl 3 rfl) ?_
    refine lv_iload_n hx hb dL_law_226 rfl (lv_at hl 0 rfl) ?_
    refine lv_iconst (v := 2) hx hb dL_law_227 (by decide) ?_
    refine lv_iadd hx hb dL_law_228 ?_
    refine lv_topi (fun y_80 ey_80 => ?_)
    obtain rfl : y_80 = 2 := ey_80.trans (by decide)
    refine va_sld hx hb hX hbl hbA hS (zf_in (by decide) (by decide)) dL_law_229 ?_
    refine lv_topi (fun y_81 ey_81 => ?_)
    obtain rfl : a_6 = y_81 := ea_6.trans ey_81.symm
    refine lv_aload_n hx hb dL_law_230 rfl (lv_at hl 3 rfl) ?_
    refine lv_iload_n hx hb dL_law_231 rfl (lv_at hl 0 rfl) ?_
    refine lv_iconst (v := 3) hx hb dL_law_232 (by decide) ?_
    refine lv_iadd hx hb dL_law_233 ?_
    refine lv_topi (fun y_82 ey_82 => ?_)
    obtain rfl : y_82 = 3 := ey_82.trans (by decide)
    refine va_sld hx hb hX hbl hbA hS (zf_in (by decide) (by decide)) dL_law_234 ?_
    refine lv_topi (fun y_83 ey_83 => ?_)
    obtain rfl : a_9 = y_83 := ea_9.trans ey_83.symm
    skip
    refine zw_V (As := [.int a_3, .int a_6, .int a_9]) (rest := [.int (-1)]) (wr := [(mki, .inl (cI, 8, .inl (fun _ => 0))), (mpa, .inl (cI, 8, .inl (fun _ => 0))), (mta, .inl (cI, 8, .inl (fun _ => 0))), (mla, .inl (cI, 40, .inl (fun _ => 0))), (msl, .inl (cI, 40, .inl (fun _ => 0))), (mco, .inl (cI, 3, .inl (zL3 5 10 50))), (msh, .inl (cI, 8, .inl (fun _ => 0))), (mca, .inl (cJ, 160, .inr (.inl (fun _ => 0)))), (mwo, .inl (cI, 64, .inl fw_)), (mnu, .inl (cI, 10, .inl fn_)), (mte, .inl (cI, 3, .inl (fun _ => 0))), (mwa, .inl (cI, 130, .inl (fun _ => 0))), (mke, .inl (cI, 130, .inl (fun _ => 0))), (mma, .inl (cI, 3, .inl (fun _ => 0))), (mth, .inl (cI, 3, .inl (fun _ => 0))), (mtr, .inl (cI, 20, .inl (fun _ => 0)))]) ⟨hx, hb, hml, hown, hts⟩ (c_M_row l D cI cJ cZ cP cS m0 mrf mki mpa mta mla msl mco mhe mso msi msh mce mca mwo mnu mte mwa mke mma mth mtr (a_3) (a_6) (a_9)  H.size) (cwV 3 hts gq_17 rfl rfl rfl (by decide +kernel) ⟨Nat.le_of_ble_eq_true rfl, Nat.le_of_ble_eq_true rfl⟩) hK hN (hZ.kept hS) hP hD hS hA [0, 1, 8, 9, 10, 12] [2, 3, 4, 5, 6, 7, 11, 13, 14, 15, 16, 17, 18, 19, 20, 21] rfl rfl (by decide) (by decide) (by decide) (va_recv hK hP (ci := 8) (q0 := 0) rfl rfl) rfl hl.1 rfl (Nat.le_of_ble_eq_true rfl) dL_law_235 ⟨Nat.le_of_ble_eq_true rfl, Nat.le_of_ble_eq_true rfl⟩ (fun r_84 u_85 H locs hr_84 hP hD hS => ?_)
    replace hP : va_P D vwCl [(mki, .inl (cI, 8, .inl (fun _ => 0))), (mpa, .inl (cI, 8, .inl (fun _ => 0))), (mta, .inl (cI, 8, .inl (fun _ => 0))), (mla, .inl (cI, 40, .inl (fun _ => 0))), (msl, .inl (cI, 40, .inl (fun _ => 0))), (mco, .inl (cI, 3, .inl (zL3 5 10 50))), (msh, .inl (cI, 8, .inl (fun _ => 0))), (mca, .inl (cJ, 160, .inr (.inl (fun _ => 0)))), (mwo, .inl (cI, 64, .inl fw_)), (mnu, .inl (cI, 10, .inl fn_)), (mte, .inl (cI, 3, .inl (fun _ => 0))), (mwa, .inl (cI, 130, .inl (fun _ => 0))), (mke, .inl (cI, 130, .inl (fun _ => 0))), (mma, .inl (cI, 3, .inl (fun _ => 0))), (mth, .inl (cI, 3, .inl (fun _ => 0))), (mtr, .inl (cI, 20, .inl (fun _ => 0)))] H := hP
    replace hD : va_D _ [(mki, .inl (cI, 8, .inl (fun _ => 0))), (mpa, .inl (cI, 8, .inl (fun _ => 0))), (mta, .inl (cI, 8, .inl (fun _ => 0))), (mla, .inl (cI, 40, .inl (fun _ => 0))), (msl, .inl (cI, 40, .inl (fun _ => 0))), (mco, .inl (cI, 3, .inl (zL3 5 10 50))), (msh, .inl (cI, 8, .inl (fun _ => 0))), (mca, .inl (cJ, 160, .inr (.inl (fun _ => 0)))), (mwo, .inl (cI, 64, .inl fw_)), (mnu, .inl (cI, 10, .inl fn_)), (mte, .inl (cI, 3, .inl (fun _ => 0))), (mwa, .inl (cI, 130, .inl (fun _ => 0))), (mke, .inl (cI, 130, .inl (fun _ => 0))), (mma, .inl (cI, 3, .inl (fun _ => 0))), (mth, .inl (cI, 3, .inl (fun _ => 0))), (mtr, .inl (cI, 20, .inl (fun _ => 0)))] := hD
    rcases hr_84 with ⟨rfl, g_86⟩ | ⟨rfl, g_87, g_88⟩ | ⟨rfl, g_89, g_90, g_91, g_92⟩ | ⟨rfl, g_93, g_94, g_95, g_96, g_97, g_98⟩ | ⟨rfl, g_99, g_100, g_101, g_102, g_103, g_104⟩ | ⟨rfl, g_105, g_106, g_107, g_108, g_109⟩ | ⟨rfl, g_110, g_111, g_112⟩
    · exfalso; omega
    · refine lv_icmp_eq (tgt := 1371) hx hb dL_law_238 (by decide) (fun c_113 => ?_) (fun c_113 => ?_)
      · refine lv_iinc (v := 6) (lv' := [(3, .int 6), (2, .ref m0), (1, .ref x0), (0, .ref b)]) hx hb dL_law_1371 hl (k := 0) rfl (by decide) (by decide) rfl (fun ls hl => ?_)
        refine lv_goto (tgt := 18) hx hb dL_law_1374 (by decide) ?_
        refine lv_iload_n hx hb dL_law_18 rfl (lv_at hl 0 rfl) ?_
        refine lv_aload_n hx hb dL_law_19 rfl (lv_at hl 3 rfl) ?_
        refine va_slen hx hb hX hbl hbA hS dL_law_20 ?_
        refine lv_topi (fun y_114 ey_114 => ?_)
        obtain rfl : y_114 = 6 := ey_114.trans (by decide)
        refine lv_bipush (v := 6) hx hb dL_law_21 (by decide) ?_
        refine lv_isub hx hb dL_law_23 ?_
        refine lv_topi (fun y_115 ey_115 => ?_)
        obtain rfl : y_115 = 0 := ey_115.trans (by decide)
        refine lv_icmp_gt (tgt := 1377) hx hb dL_law_24 (by decide) (fun c_116 => ?_) (fun c_116 => ?_)
        · refine lv_iconst (v := 1) hx hb dL_law_1377 (by decide) ?_
          refine va_forget (fun q hq => hS.2.2 q hq) ?_
          refine W.widen (k := 600000) (n := 7302250) (Nat.le_of_ble_eq_true rfl) (Nat.le_of_ble_eq_true rfl) ?_
          exact lw_ret hx hb hr hlocks dL_law_1378
        · exact absurd c_116 (by decide)
      · exact absurd c_113 (by decide)
    · exfalso; omega
    · exfalso; omega
    · exfalso; omega
    · exfalso; omega
    · exfalso; omega
  · refine lv_aload_n hx hb dL_law_219 rfl (lv_at hl 1 rfl) ?_
    refine lv_aload_n hx hb dL_law_220 rfl (lv_at hl 3 rfl) ?_
    refine lv_iload_n hx hb dL_law_221 rfl (lv_at hl 0 rfl) ?_
    refine lv_iconst (v := 1) hx hb dL_law_222 (by decide) ?_
    refine lv_iadd hx hb dL_law_223 ?_
    refine lv_topi (fun y_117 ey_117 => ?_)
    obtain rfl : y_117 = 1 := ey_117.trans (by decide)
    refine va_sld hx hb hX hbl hbA hS (zf_in (by decide) (by decide)) dL_law_224 ?_
    refine lv_topi (fun y_118 ey_118 => ?_)
    obtain rfl : a_3 = y_118 := ea_3.trans ey_118.symm
    refine lv_aload_n hx hb dL_law_225 rfl (lv_at hl 3 rfl) ?_
    refine lv_iload_n hx hb dL_law_226 rfl (lv_at hl 0 rfl) ?_
    refine lv_iconst (v := 2) hx hb dL_law_227 (by decide) ?_
    refine lv_iadd hx hb dL_law_228 ?_
    refine lv_topi (fun y_119 ey_119 => ?_)
    obtain rfl : y_119 = 2 := ey_119.trans (by decide)
    refine va_sld hx hb hX hbl hbA hS (zf_in (by decide) (by decide)) dL_law_229 ?_
    refine lv_topi (fun y_120 ey_120 => ?_)
    obtain rfl : a_6 = y_120 := ea_6.trans ey_120.symm
    refine lv_aload_n hx hb dL_law_230 rfl (lv_at hl 3 rfl) ?_
    refine lv_iload_n hx hb dL_law_231 rfl (lv_at hl 0 rfl) ?_
    refine lv_iconst (v := 3) hx hb dL_law_232 (by decide) ?_
    refine lv_iadd hx hb dL_law_233 ?_
    refine lv_topi (fun y_121 ey_121 => ?_)
    obtain rfl : y_121 = 3 := ey_121.trans (by decide)
    refine va_sld hx hb hX hbl hbA hS (zf_in (by decide) (by decide)) dL_law_234 ?_
    refine lv_topi (fun y_122 ey_122 => ?_)
    obtain rfl : a_9 = y_122 := ea_9.trans ey_122.symm
    skip
    refine zw_V (As := [.int a_3, .int a_6, .int a_9]) (rest := [.int (-6)]) (wr := [(mki, .inl (cI, 8, .inl (fun _ => 0))), (mpa, .inl (cI, 8, .inl (fun _ => 0))), (mta, .inl (cI, 8, .inl (fun _ => 0))), (mla, .inl (cI, 40, .inl (fun _ => 0))), (msl, .inl (cI, 40, .inl (fun _ => 0))), (mco, .inl (cI, 3, .inl (zL3 5 10 50))), (msh, .inl (cI, 8, .inl (fun _ => 0))), (mca, .inl (cJ, 160, .inr (.inl (fun _ => 0)))), (mwo, .inl (cI, 64, .inl fw_)), (mnu, .inl (cI, 10, .inl fn_)), (mte, .inl (cI, 3, .inl (fun _ => 0))), (mwa, .inl (cI, 130, .inl (fun _ => 0))), (mke, .inl (cI, 130, .inl (fun _ => 0))), (mma, .inl (cI, 3, .inl (fun _ => 0))), (mth, .inl (cI, 3, .inl (fun _ => 0))), (mtr, .inl (cI, 20, .inl (fun _ => 0)))]) ⟨hx, hb, hml, hown, hts⟩ (c_M_row l D cI cJ cZ cP cS m0 mrf mki mpa mta mla msl mco mhe mso msi msh mce mca mwo mnu mte mwa mke mma mth mtr (a_3) (a_6) (a_9)  H.size) (cwV 3 hts gq_17 rfl rfl rfl (by decide +kernel) ⟨Nat.le_of_ble_eq_true rfl, Nat.le_of_ble_eq_true rfl⟩) hK hN (hZ.kept hS) hP hD hS hA [0, 1, 8, 9, 10, 12] [2, 3, 4, 5, 6, 7, 11, 13, 14, 15, 16, 17, 18, 19, 20, 21] rfl rfl (by decide) (by decide) (by decide) (va_recv hK hP (ci := 8) (q0 := 0) rfl rfl) rfl hl.1 rfl (Nat.le_of_ble_eq_true rfl) dL_law_235 ⟨Nat.le_of_ble_eq_true rfl, Nat.le_of_ble_eq_true rfl⟩ (fun r_123 u_124 H locs hr_123 hP hD hS => ?_)
    replace hP : va_P D vwCl [(mki, .inl (cI, 8, .inl (fun _ => 0))), (mpa, .inl (cI, 8, .inl (fun _ => 0))), (mta, .inl (cI, 8, .inl (fun _ => 0))), (mla, .inl (cI, 40, .inl (fun _ => 0))), (msl, .inl (cI, 40, .inl (fun _ => 0))), (mco, .inl (cI, 3, .inl (zL3 5 10 50))), (msh, .inl (cI, 8, .inl (fun _ => 0))), (mca, .inl (cJ, 160, .inr (.inl (fun _ => 0)))), (mwo, .inl (cI, 64, .inl fw_)), (mnu, .inl (cI, 10, .inl fn_)), (mte, .inl (cI, 3, .inl (fun _ => 0))), (mwa, .inl (cI, 130, .inl (fun _ => 0))), (mke, .inl (cI, 130, .inl (fun _ => 0))), (mma, .inl (cI, 3, .inl (fun _ => 0))), (mth, .inl (cI, 3, .inl (fun _ => 0))), (mtr, .inl (cI, 20, .inl (fun _ => 0)))] H := hP
    replace hD : va_D _ [(mki, .inl (cI, 8, .inl (fun _ => 0))), (mpa, .inl (cI, 8, .inl (fun _ => 0))), (mta, .inl (cI, 8, .inl (fun _ => 0))), (mla, .inl (cI, 40, .inl (fun _ => 0))), (msl, .inl (cI, 40, .inl (fun _ => 0))), (mco, .inl (cI, 3, .inl (zL3 5 10 50))), (msh, .inl (cI, 8, .inl (fun _ => 0))), (mca, .inl (cJ, 160, .inr (.inl (fun _ => 0)))), (mwo, .inl (cI, 64, .inl fw_)), (mnu, .inl (cI, 10, .inl fn_)), (mte, .inl (cI, 3, .inl (fun _ => 0))), (mwa, .inl (cI, 130, .inl (fun _ => 0))), (mke, .inl (cI, 130, .inl (fun _ => 0))), (mma, .inl (cI, 3, .inl (fun _ => 0))), (mth, .inl (cI, 3, .inl (fun _ => 0))), (mtr, .inl (cI, 20, .inl (fun _ => 0)))] := hD
    rcases hr_123 with ⟨rfl, g_125⟩ | ⟨rfl, g_126, g_127⟩ | ⟨rfl, g_128, g_129, g_130, g_131⟩ | ⟨rfl, g_132, g_133, g_134, g_135, g_136, g_137⟩ | ⟨rfl, g_138, g_139, g_140, g_141, g_142, g_143⟩ | ⟨rfl, g_144, g_145, g_146, g_147, g_148⟩ | ⟨rfl, g_149, g_150, g_151⟩
    · exfalso; omega
    · exfalso; omega
    · refine lv_icmp_eq (tgt := 1371) hx hb dL_law_238 (by decide) (fun c_152 => ?_) (fun c_152 => ?_)
      · refine lv_iinc (v := 6) (lv' := [(3, .int 6), (2, .ref m0), (1, .ref x0), (0, .ref b)]) hx hb dL_law_1371 hl (k := 0) rfl (by decide) (by decide) rfl (fun ls hl => ?_)
        refine lv_goto (tgt := 18) hx hb dL_law_1374 (by decide) ?_
        refine lv_iload_n hx hb dL_law_18 rfl (lv_at hl 0 rfl) ?_
        refine lv_aload_n hx hb dL_law_19 rfl (lv_at hl 3 rfl) ?_
        refine va_slen hx hb hX hbl hbA hS dL_law_20 ?_
        refine lv_topi (fun y_153 ey_153 => ?_)
        obtain rfl : y_153 = 6 := ey_153.trans (by decide)
        refine lv_bipush (v := 6) hx hb dL_law_21 (by decide) ?_
        refine lv_isub hx hb dL_law_23 ?_
        refine lv_topi (fun y_154 ey_154 => ?_)
        obtain rfl : y_154 = 0 := ey_154.trans (by decide)
        refine lv_icmp_gt (tgt := 1377) hx hb dL_law_24 (by decide) (fun c_155 => ?_) (fun c_155 => ?_)
        · refine lv_iconst (v := 1) hx hb dL_law_1377 (by decide) ?_
          refine va_forget (fun q hq => hS.2.2 q hq) ?_
          refine W.widen (k := 600000) (n := 7302250) (Nat.le_of_ble_eq_true rfl) (Nat.le_of_ble_eq_true rfl) ?_
          exact lw_ret hx hb hr hlocks dL_law_1378
        · exact absurd c_155 (by decide)
      · exact absurd c_152 (by decide)
    · exfalso; omega
    · exfalso; omega
    · exfalso; omega
    · exfalso; omega
  · refine lv_aload_n hx hb dL_law_219 rfl (lv_at hl 1 rfl) ?_
    refine lv_aload_n hx hb dL_law_220 rfl (lv_at hl 3 rfl) ?_
    refine lv_iload_n hx hb dL_law_221 rfl (lv_at hl 0 rfl) ?_
    refine lv_iconst (v := 1) hx hb dL_law_222 (by decide) ?_
    refine lv_iadd hx hb dL_law_223 ?_
    refine lv_topi (fun y_156 ey_156 => ?_)
    obtain rfl : y_156 = 1 := ey_156.trans (by decide)
    refine va_sld hx hb hX hbl hbA hS (zf_in (by decide) (by decide)) dL_law_224 ?_
    refine lv_topi (fun y_157 ey_157 => ?_)
    obtain rfl : a_3 = y_157 := ea_3.trans ey_157.symm
    refine lv_aload_n hx hb dL_law_225 rfl (lv_at hl 3 rfl) ?_
    refine lv_iload_n hx hb dL_law_226 rfl (lv_at hl 0 rfl) ?_
    refine lv_iconst (v := 2) hx hb dL_law_227 (by decide) ?_
    refine lv_iadd hx hb dL_law_228 ?_
    refine lv_topi (fun y_158 ey_158 => ?_)
    obtain rfl : y_158 = 2 := ey_158.trans (by decide)
    refine va_sld hx hb hX hbl hbA hS (zf_in (by decide) (by decide)) dL_law_229 ?_
    refine lv_topi (fun y_159 ey_159 => ?_)
    obtain rfl : a_6 = y_159 := ea_6.trans ey_159.symm
    refine lv_aload_n hx hb dL_law_230 rfl (lv_at hl 3 rfl) ?_
    refine lv_iload_n hx hb dL_law_231 rfl (lv_at hl 0 rfl) ?_
    refine lv_iconst (v := 3) hx hb dL_law_232 (by decide) ?_
    refine lv_iadd hx hb dL_law_233 ?_
    refine lv_topi (fun y_160 ey_160 => ?_)
    obtain rfl : y_160 = 3 := ey_160.trans (by decide)
    refine va_sld hx hb hX hbl hbA hS (zf_in (by decide) (by decide)) dL_law_234 ?_
    refine lv_topi (fun y_161 ey_161 => ?_)
    obtain rfl : a_9 = y_161 := ea_9.trans ey_161.symm
    skip
    refine zw_V (As := [.int a_3, .int a_6, .int a_9]) (rest := [.int (-6)]) (wr := [(mki, .inl (cI, 8, .inl (fun _ => 0))), (mpa, .inl (cI, 8, .inl (fun _ => 0))), (mta, .inl (cI, 8, .inl (fun _ => 0))), (mla, .inl (cI, 40, .inl (fun _ => 0))), (msl, .inl (cI, 40, .inl (fun _ => 0))), (mco, .inl (cI, 3, .inl (zL3 5 10 50))), (msh, .inl (cI, 8, .inl (fun _ => 0))), (mca, .inl (cJ, 160, .inr (.inl (fun _ => 0)))), (mwo, .inl (cI, 64, .inl fw_)), (mnu, .inl (cI, 10, .inl fn_)), (mte, .inl (cI, 3, .inl (fun _ => 0))), (mwa, .inl (cI, 130, .inl (fun _ => 0))), (mke, .inl (cI, 130, .inl (fun _ => 0))), (mma, .inl (cI, 3, .inl (fun _ => 0))), (mth, .inl (cI, 3, .inl (fun _ => 0))), (mtr, .inl (cI, 20, .inl (fun _ => 0)))]) ⟨hx, hb, hml, hown, hts⟩ (c_M_row l D cI cJ cZ cP cS m0 mrf mki mpa mta mla msl mco mhe mso msi msh mce mca mwo mnu mte mwa mke mma mth mtr (a_3) (a_6) (a_9)  H.size) (cwV 3 hts gq_17 rfl rfl rfl (by decide +kernel) ⟨Nat.le_of_ble_eq_true rfl, Nat.le_of_ble_eq_true rfl⟩) hK hN (hZ.kept hS) hP hD hS hA [0, 1, 8, 9, 10, 12] [2, 3, 4, 5, 6, 7, 11, 13, 14, 15, 16, 17, 18, 19, 20, 21] rfl rfl (by decide) (by decide) (by decide) (va_recv hK hP (ci := 8) (q0 := 0) rfl rfl) rfl hl.1 rfl (Nat.le_of_ble_eq_true rfl) dL_law_235 ⟨Nat.le_of_ble_eq_true rfl, Nat.le_of_ble_eq_true rfl⟩ (fun r_162 u_163 H locs hr_162 hP hD hS => ?_)
    replace hP : va_P D vwCl [(mki, .inl (cI, 8, .inl (fun _ => 0))), (mpa, .inl (cI, 8, .inl (fun _ => 0))), (mta, .inl (cI, 8, .inl (fun _ => 0))), (mla, .inl (cI, 40, .inl (fun _ => 0))), (msl, .inl (cI, 40, .inl (fun _ => 0))), (mco, .inl (cI, 3, .inl (zL3 5 10 50))), (msh, .inl (cI, 8, .inl (fun _ => 0))), (mca, .inl (cJ, 160, .inr (.inl (fun _ => 0)))), (mwo, .inl (cI, 64, .inl fw_)), (mnu, .inl (cI, 10, .inl fn_)), (mte, .inl (cI, 3, .inl (fun _ => 0))), (mwa, .inl (cI, 130, .inl (fun _ => 0))), (mke, .inl (cI, 130, .inl (fun _ => 0))), (mma, .inl (cI, 3, .inl (fun _ => 0))), (mth, .inl (cI, 3, .inl (fun _ => 0))), (mtr, .inl (cI, 20, .inl (fun _ => 0)))] H := hP
    replace hD : va_D _ [(mki, .inl (cI, 8, .inl (fun _ => 0))), (mpa, .inl (cI, 8, .inl (fun _ => 0))), (mta, .inl (cI, 8, .inl (fun _ => 0))), (mla, .inl (cI, 40, .inl (fun _ => 0))), (msl, .inl (cI, 40, .inl (fun _ => 0))), (mco, .inl (cI, 3, .inl (zL3 5 10 50))), (msh, .inl (cI, 8, .inl (fun _ => 0))), (mca, .inl (cJ, 160, .inr (.inl (fun _ => 0)))), (mwo, .inl (cI, 64, .inl fw_)), (mnu, .inl (cI, 10, .inl fn_)), (mte, .inl (cI, 3, .inl (fun _ => 0))), (mwa, .inl (cI, 130, .inl (fun _ => 0))), (mke, .inl (cI, 130, .inl (fun _ => 0))), (mma, .inl (cI, 3, .inl (fun _ => 0))), (mth, .inl (cI, 3, .inl (fun _ => 0))), (mtr, .inl (cI, 20, .inl (fun _ => 0)))] := hD
    rcases hr_162 with ⟨rfl, g_164⟩ | ⟨rfl, g_165, g_166⟩ | ⟨rfl, g_167, g_168, g_169, g_170⟩ | ⟨rfl, g_171, g_172, g_173, g_174, g_175, g_176⟩ | ⟨rfl, g_177, g_178, g_179, g_180, g_181, g_182⟩ | ⟨rfl, g_183, g_184, g_185, g_186, g_187⟩ | ⟨rfl, g_188, g_189, g_190⟩
    · exfalso; omega
    · exfalso; omega
    · exfalso; omega
    · exfalso; omega
    · exfalso; omega
    · refine lv_icmp_eq (tgt := 1371) hx hb dL_law_238 (by decide) (fun c_191 => ?_) (fun c_191 => ?_)
      · refine lv_iinc (v := 6) (lv' := [(3, .int 6), (2, .ref m0), (1, .ref x0), (0, .ref b)]) hx hb dL_law_1371 hl (k := 0) rfl (by decide) (by decide) rfl (fun ls hl => ?_)
        refine lv_goto (tgt := 18) hx hb dL_law_1374 (by decide) ?_
        refine lv_iload_n hx hb dL_law_18 rfl (lv_at hl 0 rfl) ?_
        refine lv_aload_n hx hb dL_law_19 rfl (lv_at hl 3 rfl) ?_
        refine va_slen hx hb hX hbl hbA hS dL_law_20 ?_
        refine lv_topi (fun y_192 ey_192 => ?_)
        obtain rfl : y_192 = 6 := ey_192.trans (by decide)
        refine lv_bipush (v := 6) hx hb dL_law_21 (by decide) ?_
        refine lv_isub hx hb dL_law_23 ?_
        refine lv_topi (fun y_193 ey_193 => ?_)
        obtain rfl : y_193 = 0 := ey_193.trans (by decide)
        refine lv_icmp_gt (tgt := 1377) hx hb dL_law_24 (by decide) (fun c_194 => ?_) (fun c_194 => ?_)
        · refine lv_iconst (v := 1) hx hb dL_law_1377 (by decide) ?_
          refine va_forget (fun q hq => hS.2.2 q hq) ?_
          refine W.widen (k := 600000) (n := 7302250) (Nat.le_of_ble_eq_true rfl) (Nat.le_of_ble_eq_true rfl) ?_
          exact lw_ret hx hb hr hlocks dL_law_1378
        · exact absurd c_194 (by decide)
      · exact absurd c_191 (by decide)
    · exfalso; omega
  · refine lv_aload_n hx hb dL_law_219 rfl (lv_at hl 1 rfl) ?_
    refine lv_aload_n hx hb dL_law_220 rfl (lv_at hl 3 rfl) ?_
    refine lv_iload_n hx hb dL_law_221 rfl (lv_at hl 0 rfl) ?_
    refine lv_iconst (v := 1) hx hb dL_law_222 (by decide) ?_
    refine lv_iadd hx hb dL_law_223 ?_
    refine lv_topi (fun y_195 ey_195 => ?_)
    obtain rfl : y_195 = 1 := ey_195.trans (by decide)
    refine va_sld hx hb hX hbl hbA hS (zf_in (by decide) (by decide)) dL_law_224 ?_
    refine lv_topi (fun y_196 ey_196 => ?_)
    obtain rfl : a_3 = y_196 := ea_3.trans ey_196.symm
    refine lv_aload_n hx hb dL_law_225 rfl (lv_at hl 3 rfl) ?_
    refine lv_iload_n hx hb dL_law_226 rfl (lv_at hl 0 rfl) ?_
    refine lv_iconst (v := 2) hx hb dL_law_227 (by decide) ?_
    refine lv_iadd hx hb dL_law_228 ?_
    refine lv_topi (fun y_197 ey_197 => ?_)
    obtain rfl : y_197 = 2 := ey_197.trans (by decide)
    refine va_sld hx hb hX hbl hbA hS (zf_in (by decide) (by decide)) dL_law_229 ?_
    refine lv_topi (fun y_198 ey_198 => ?_)
    obtain rfl : a_6 = y_198 := ea_6.trans ey_198.symm
    refine lv_aload_n hx hb dL_law_230 rfl (lv_at hl 3 rfl) ?_
    refine lv_iload_n hx hb dL_law_231 rfl (lv_at hl 0 rfl) ?_
    refine lv_iconst (v := 3) hx hb dL_law_232 (by decide) ?_
    refine lv_iadd hx hb dL_law_233 ?_
    refine lv_topi (fun y_199 ey_199 => ?_)
    obtain rfl : y_199 = 3 := ey_199.trans (by decide)
    refine va_sld hx hb hX hbl hbA hS (zf_in (by decide) (by decide)) dL_law_234 ?_
    refine lv_topi (fun y_200 ey_200 => ?_)
    obtain rfl : a_9 = y_200 := ea_9.trans ey_200.symm
    skip
    refine zw_V (As := [.int a_3, .int a_6, .int a_9]) (rest := [.int 1]) (wr := [(mki, .inl (cI, 8, .inl (fun _ => 0))), (mpa, .inl (cI, 8, .inl (fun _ => 0))), (mta, .inl (cI, 8, .inl (fun _ => 0))), (mla, .inl (cI, 40, .inl (fun _ => 0))), (msl, .inl (cI, 40, .inl (fun _ => 0))), (mco, .inl (cI, 3, .inl (zL3 5 10 50))), (msh, .inl (cI, 8, .inl (fun _ => 0))), (mca, .inl (cJ, 160, .inr (.inl (fun _ => 0)))), (mwo, .inl (cI, 64, .inl fw_)), (mnu, .inl (cI, 10, .inl fn_)), (mte, .inl (cI, 3, .inl (fun _ => 0))), (mwa, .inl (cI, 130, .inl (fun _ => 0))), (mke, .inl (cI, 130, .inl (fun _ => 0))), (mma, .inl (cI, 3, .inl (fun _ => 0))), (mth, .inl (cI, 3, .inl (fun _ => 0))), (mtr, .inl (cI, 20, .inl (fun _ => 0)))]) ⟨hx, hb, hml, hown, hts⟩ (c_M_row l D cI cJ cZ cP cS m0 mrf mki mpa mta mla msl mco mhe mso msi msh mce mca mwo mnu mte mwa mke mma mth mtr (a_3) (a_6) (a_9)  H.size) (cwV 3 hts gq_17 rfl rfl rfl (by decide +kernel) ⟨Nat.le_of_ble_eq_true rfl, Nat.le_of_ble_eq_true rfl⟩) hK hN (hZ.kept hS) hP hD hS hA [0, 1, 8, 9, 10, 12] [2, 3, 4, 5, 6, 7, 11, 13, 14, 15, 16, 17, 18, 19, 20, 21] rfl rfl (by decide) (by decide) (by decide) (va_recv hK hP (ci := 8) (q0 := 0) rfl rfl) rfl hl.1 rfl (Nat.le_of_ble_eq_true rfl) dL_law_235 ⟨Nat.le_of_ble_eq_true rfl, Nat.le_of_ble_eq_true rfl⟩ (fun r_201 u_202 H locs hr_201 hP hD hS => ?_)
    replace hP : va_P D vwCl [(mki, .inl (cI, 8, .inl (fun _ => 0))), (mpa, .inl (cI, 8, .inl (fun _ => 0))), (mta, .inl (cI, 8, .inl (fun _ => 0))), (mla, .inl (cI, 40, .inl (fun _ => 0))), (msl, .inl (cI, 40, .inl (fun _ => 0))), (mco, .inl (cI, 3, .inl (zL3 5 10 50))), (msh, .inl (cI, 8, .inl (fun _ => 0))), (mca, .inl (cJ, 160, .inr (.inl (fun _ => 0)))), (mwo, .inl (cI, 64, .inl fw_)), (mnu, .inl (cI, 10, .inl fn_)), (mte, .inl (cI, 3, .inl (fun _ => 0))), (mwa, .inl (cI, 130, .inl (fun _ => 0))), (mke, .inl (cI, 130, .inl (fun _ => 0))), (mma, .inl (cI, 3, .inl (fun _ => 0))), (mth, .inl (cI, 3, .inl (fun _ => 0))), (mtr, .inl (cI, 20, .inl (fun _ => 0)))] H := hP
    replace hD : va_D _ [(mki, .inl (cI, 8, .inl (fun _ => 0))), (mpa, .inl (cI, 8, .inl (fun _ => 0))), (mta, .inl (cI, 8, .inl (fun _ => 0))), (mla, .inl (cI, 40, .inl (fun _ => 0))), (msl, .inl (cI, 40, .inl (fun _ => 0))), (mco, .inl (cI, 3, .inl (zL3 5 10 50))), (msh, .inl (cI, 8, .inl (fun _ => 0))), (mca, .inl (cJ, 160, .inr (.inl (fun _ => 0)))), (mwo, .inl (cI, 64, .inl fw_)), (mnu, .inl (cI, 10, .inl fn_)), (mte, .inl (cI, 3, .inl (fun _ => 0))), (mwa, .inl (cI, 130, .inl (fun _ => 0))), (mke, .inl (cI, 130, .inl (fun _ => 0))), (mma, .inl (cI, 3, .inl (fun _ => 0))), (mth, .inl (cI, 3, .inl (fun _ => 0))), (mtr, .inl (cI, 20, .inl (fun _ => 0)))] := hD
    rcases hr_201 with ⟨rfl, g_203⟩ | ⟨rfl, g_204, g_205⟩ | ⟨rfl, g_206, g_207, g_208, g_209⟩ | ⟨rfl, g_210, g_211, g_212, g_213, g_214, g_215⟩ | ⟨rfl, g_216, g_217, g_218, g_219, g_220, g_221⟩ | ⟨rfl, g_222, g_223, g_224, g_225, g_226⟩ | ⟨rfl, g_227, g_228, g_229⟩
    · exfalso; omega
    · exfalso; omega
    · exfalso; omega
    · refine lv_icmp_eq (tgt := 1371) hx hb dL_law_238 (by decide) (fun c_230 => ?_) (fun c_230 => ?_)
      · refine lv_iinc (v := 6) (lv' := [(3, .int 6), (2, .ref m0), (1, .ref x0), (0, .ref b)]) hx hb dL_law_1371 hl (k := 0) rfl (by decide) (by decide) rfl (fun ls hl => ?_)
        refine lv_goto (tgt := 18) hx hb dL_law_1374 (by decide) ?_
        refine lv_iload_n hx hb dL_law_18 rfl (lv_at hl 0 rfl) ?_
        refine lv_aload_n hx hb dL_law_19 rfl (lv_at hl 3 rfl) ?_
        refine va_slen hx hb hX hbl hbA hS dL_law_20 ?_
        refine lv_topi (fun y_231 ey_231 => ?_)
        obtain rfl : y_231 = 6 := ey_231.trans (by decide)
        refine lv_bipush (v := 6) hx hb dL_law_21 (by decide) ?_
        refine lv_isub hx hb dL_law_23 ?_
        refine lv_topi (fun y_232 ey_232 => ?_)
        obtain rfl : y_232 = 0 := ey_232.trans (by decide)
        refine lv_icmp_gt (tgt := 1377) hx hb dL_law_24 (by decide) (fun c_233 => ?_) (fun c_233 => ?_)
        · refine lv_iconst (v := 1) hx hb dL_law_1377 (by decide) ?_
          refine va_forget (fun q hq => hS.2.2 q hq) ?_
          refine W.widen (k := 600000) (n := 7302250) (Nat.le_of_ble_eq_true rfl) (Nat.le_of_ble_eq_true rfl) ?_
          exact lw_ret hx hb hr hlocks dL_law_1378
        · exact absurd c_233 (by decide)
      · exact absurd c_230 (by decide)
    · exfalso; omega
    · exfalso; omega
    · exfalso; omega
  · refine lv_aload_n hx hb dL_law_219 rfl (lv_at hl 1 rfl) ?_
    refine lv_aload_n hx hb dL_law_220 rfl (lv_at hl 3 rfl) ?_
    refine lv_iload_n hx hb dL_law_221 rfl (lv_at hl 0 rfl) ?_
    refine lv_iconst (v := 1) hx hb dL_law_222 (by decide) ?_
    refine lv_iadd hx hb dL_law_223 ?_
    refine lv_topi (fun y_234 ey_234 => ?_)
    obtain rfl : y_234 = 1 := ey_234.trans (by decide)
    refine va_sld hx hb hX hbl hbA hS (zf_in (by decide) (by decide)) dL_law_224 ?_
    refine lv_topi (fun y_235 ey_235 => ?_)
    obtain rfl : a_3 = y_235 := ea_3.trans ey_235.symm
    refine lv_aload_n hx hb dL_law_225 rfl (lv_at hl 3 rfl) ?_
    refine lv_iload_n hx hb dL_law_226 rfl (lv_at hl 0 rfl) ?_
    refine lv_iconst (v := 2) hx hb dL_law_227 (by decide) ?_
    refine lv_iadd hx hb dL_law_228 ?_
    refine lv_topi (fun y_236 ey_236 => ?_)
    obtain rfl : y_236 = 2 := ey_236.trans (by decide)
    refine va_sld hx hb hX hbl hbA hS (zf_in (by decide) (by decide)) dL_law_229 ?_
    refine lv_topi (fun y_237 ey_237 => ?_)
    obtain rfl : a_6 = y_237 := ea_6.trans ey_237.symm
    refine lv_aload_n hx hb dL_law_230 rfl (lv_at hl 3 rfl) ?_
    refine lv_iload_n hx hb dL_law_231 rfl (lv_at hl 0 rfl) ?_
    refine lv_iconst (v := 3) hx hb dL_law_232 (by decide) ?_
    refine lv_iadd hx hb dL_law_233 ?_
    refine lv_topi (fun y_238 ey_238 => ?_)
    obtain rfl : y_238 = 3 := ey_238.trans (by decide)
    refine va_sld hx hb hX hbl hbA hS (zf_in (by decide) (by decide)) dL_law_234 ?_
    refine lv_topi (fun y_239 ey_239 => ?_)
    obtain rfl : a_9 = y_239 := ea_9.trans ey_239.symm
    skip
    refine zw_V (As := [.int a_3, .int a_6, .int a_9]) (rest := [.int (-7)]) (wr := [(mki, .inl (cI, 8, .inl (fun _ => 0))), (mpa, .inl (cI, 8, .inl (fun _ => 0))), (mta, .inl (cI, 8, .inl (fun _ => 0))), (mla, .inl (cI, 40, .inl (fun _ => 0))), (msl, .inl (cI, 40, .inl (fun _ => 0))), (mco, .inl (cI, 3, .inl (zL3 5 10 50))), (msh, .inl (cI, 8, .inl (fun _ => 0))), (mca, .inl (cJ, 160, .inr (.inl (fun _ => 0)))), (mwo, .inl (cI, 64, .inl fw_)), (mnu, .inl (cI, 10, .inl fn_)), (mte, .inl (cI, 3, .inl (fun _ => 0))), (mwa, .inl (cI, 130, .inl (fun _ => 0))), (mke, .inl (cI, 130, .inl (fun _ => 0))), (mma, .inl (cI, 3, .inl (fun _ => 0))), (mth, .inl (cI, 3, .inl (fun _ => 0))), (mtr, .inl (cI, 20, .inl (fun _ => 0)))]) ⟨hx, hb, hml, hown, hts⟩ (c_M_row l D cI cJ cZ cP cS m0 mrf mki mpa mta mla msl mco mhe mso msi msh mce mca mwo mnu mte mwa mke mma mth mtr (a_3) (a_6) (a_9)  H.size) (cwV 3 hts gq_17 rfl rfl rfl (by decide +kernel) ⟨Nat.le_of_ble_eq_true rfl, Nat.le_of_ble_eq_true rfl⟩) hK hN (hZ.kept hS) hP hD hS hA [0, 1, 8, 9, 10, 12] [2, 3, 4, 5, 6, 7, 11, 13, 14, 15, 16, 17, 18, 19, 20, 21] rfl rfl (by decide) (by decide) (by decide) (va_recv hK hP (ci := 8) (q0 := 0) rfl rfl) rfl hl.1 rfl (Nat.le_of_ble_eq_true rfl) dL_law_235 ⟨Nat.le_of_ble_eq_true rfl, Nat.le_of_ble_eq_true rfl⟩ (fun r_240 u_241 H locs hr_240 hP hD hS => ?_)
    replace hP : va_P D vwCl [(mki, .inl (cI, 8, .inl (fun _ => 0))), (mpa, .inl (cI, 8, .inl (fun _ => 0))), (mta, .inl (cI, 8, .inl (fun _ => 0))), (mla, .inl (cI, 40, .inl (fun _ => 0))), (msl, .inl (cI, 40, .inl (fun _ => 0))), (mco, .inl (cI, 3, .inl (zL3 5 10 50))), (msh, .inl (cI, 8, .inl (fun _ => 0))), (mca, .inl (cJ, 160, .inr (.inl (fun _ => 0)))), (mwo, .inl (cI, 64, .inl fw_)), (mnu, .inl (cI, 10, .inl fn_)), (mte, .inl (cI, 3, .inl (fun _ => 0))), (mwa, .inl (cI, 130, .inl (fun _ => 0))), (mke, .inl (cI, 130, .inl (fun _ => 0))), (mma, .inl (cI, 3, .inl (fun _ => 0))), (mth, .inl (cI, 3, .inl (fun _ => 0))), (mtr, .inl (cI, 20, .inl (fun _ => 0)))] H := hP
    replace hD : va_D _ [(mki, .inl (cI, 8, .inl (fun _ => 0))), (mpa, .inl (cI, 8, .inl (fun _ => 0))), (mta, .inl (cI, 8, .inl (fun _ => 0))), (mla, .inl (cI, 40, .inl (fun _ => 0))), (msl, .inl (cI, 40, .inl (fun _ => 0))), (mco, .inl (cI, 3, .inl (zL3 5 10 50))), (msh, .inl (cI, 8, .inl (fun _ => 0))), (mca, .inl (cJ, 160, .inr (.inl (fun _ => 0)))), (mwo, .inl (cI, 64, .inl fw_)), (mnu, .inl (cI, 10, .inl fn_)), (mte, .inl (cI, 3, .inl (fun _ => 0))), (mwa, .inl (cI, 130, .inl (fun _ => 0))), (mke, .inl (cI, 130, .inl (fun _ => 0))), (mma, .inl (cI, 3, .inl (fun _ => 0))), (mth, .inl (cI, 3, .inl (fun _ => 0))), (mtr, .inl (cI, 20, .inl (fun _ => 0)))] := hD
    rcases hr_240 with ⟨rfl, g_242⟩ | ⟨rfl, g_243, g_244⟩ | ⟨rfl, g_245, g_246, g_247, g_248⟩ | ⟨rfl, g_249, g_250, g_251, g_252, g_253, g_254⟩ | ⟨rfl, g_255, g_256, g_257, g_258, g_259, g_260⟩ | ⟨rfl, g_261, g_262, g_263, g_264, g_265⟩ | ⟨rfl, g_266, g_267, g_268⟩
    · exfalso; omega
    · exfalso; omega
    · exfalso; omega
    · exfalso; omega
    · refine lv_icmp_eq (tgt := 1371) hx hb dL_law_238 (by decide) (fun c_269 => ?_) (fun c_269 => ?_)
      · refine lv_iinc (v := 6) (lv' := [(3, .int 6), (2, .ref m0), (1, .ref x0), (0, .ref b)]) hx hb dL_law_1371 hl (k := 0) rfl (by decide) (by decide) rfl (fun ls hl => ?_)
        refine lv_goto (tgt := 18) hx hb dL_law_1374 (by decide) ?_
        refine lv_iload_n hx hb dL_law_18 rfl (lv_at hl 0 rfl) ?_
        refine lv_aload_n hx hb dL_law_19 rfl (lv_at hl 3 rfl) ?_
        refine va_slen hx hb hX hbl hbA hS dL_law_20 ?_
        refine lv_topi (fun y_270 ey_270 => ?_)
        obtain rfl : y_270 = 6 := ey_270.trans (by decide)
        refine lv_bipush (v := 6) hx hb dL_law_21 (by decide) ?_
        refine lv_isub hx hb dL_law_23 ?_
        refine lv_topi (fun y_271 ey_271 => ?_)
        obtain rfl : y_271 = 0 := ey_271.trans (by decide)
        refine lv_icmp_gt (tgt := 1377) hx hb dL_law_24 (by decide) (fun c_272 => ?_) (fun c_272 => ?_)
        · refine lv_iconst (v := 1) hx hb dL_law_1377 (by decide) ?_
          refine va_forget (fun q hq => hS.2.2 q hq) ?_
          refine W.widen (k := 600000) (n := 7302250) (Nat.le_of_ble_eq_true rfl) (Nat.le_of_ble_eq_true rfl) ?_
          exact lw_ret hx hb hr hlocks dL_law_1378
        · exact absurd c_272 (by decide)
      · exact absurd c_269 (by decide)
    · exfalso; omega
    · exfalso; omega
  · refine lv_aload_n hx hb dL_law_219 rfl (lv_at hl 1 rfl) ?_
    refine lv_aload_n hx hb dL_law_220 rfl (lv_at hl 3 rfl) ?_
    refine lv_iload_n hx hb dL_law_221 rfl (lv_at hl 0 rfl) ?_
    refine lv_iconst (v := 1) hx hb dL_law_222 (by decide) ?_
    refine lv_iadd hx hb dL_law_223 ?_
    refine lv_topi (fun y_273 ey_273 => ?_)
    obtain rfl : y_273 = 1 := ey_273.trans (by decide)
    refine va_sld hx hb hX hbl hbA hS (zf_in (by decide) (by decide)) dL_law_224 ?_
    refine lv_topi (fun y_274 ey_274 => ?_)
    obtain rfl : a_3 = y_274 := ea_3.trans ey_274.symm
    refine lv_aload_n hx hb dL_law_225 rfl (lv_at hl 3 rfl) ?_
    refine lv_iload_n hx hb dL_law_226 rfl (lv_at hl 0 rfl) ?_
    refine lv_iconst (v := 2) hx hb dL_law_227 (by decide) ?_
    refine lv_iadd hx hb dL_law_228 ?_
    refine lv_topi (fun y_275 ey_275 => ?_)
    obtain rfl : y_275 = 2 := ey_275.trans (by decide)
    refine va_sld hx hb hX hbl hbA hS (zf_in (by decide) (by decide)) dL_law_229 ?_
    refine lv_topi (fun y_276 ey_276 => ?_)
    obtain rfl : a_6 = y_276 := ea_6.trans ey_276.symm
    refine lv_aload_n hx hb dL_law_230 rfl (lv_at hl 3 rfl) ?_
    refine lv_iload_n hx hb dL_law_231 rfl (lv_at hl 0 rfl) ?_
    refine lv_iconst (v := 3) hx hb dL_law_232 (by decide) ?_
    refine lv_iadd hx hb dL_law_233 ?_
    refine lv_topi (fun y_277 ey_277 => ?_)
    obtain rfl : y_277 = 3 := ey_277.trans (by decide)
    refine va_sld hx hb hX hbl hbA hS (zf_in (by decide) (by decide)) dL_law_234 ?_
    refine lv_topi (fun y_278 ey_278 => ?_)
    obtain rfl : a_9 = y_278 := ea_9.trans ey_278.symm
    skip
    refine zw_V (As := [.int a_3, .int a_6, .int a_9]) (rest := [.int (-4)]) (wr := [(mki, .inl (cI, 8, .inl (fun _ => 0))), (mpa, .inl (cI, 8, .inl (fun _ => 0))), (mta, .inl (cI, 8, .inl (fun _ => 0))), (mla, .inl (cI, 40, .inl (fun _ => 0))), (msl, .inl (cI, 40, .inl (fun _ => 0))), (mco, .inl (cI, 3, .inl (zL3 5 10 50))), (msh, .inl (cI, 8, .inl (fun _ => 0))), (mca, .inl (cJ, 160, .inr (.inl (fun _ => 0)))), (mwo, .inl (cI, 64, .inl fw_)), (mnu, .inl (cI, 10, .inl fn_)), (mte, .inl (cI, 3, .inl (fun _ => 0))), (mwa, .inl (cI, 130, .inl (fun _ => 0))), (mke, .inl (cI, 130, .inl (fun _ => 0))), (mma, .inl (cI, 3, .inl (fun _ => 0))), (mth, .inl (cI, 3, .inl (fun _ => 0))), (mtr, .inl (cI, 20, .inl (fun _ => 0)))]) ⟨hx, hb, hml, hown, hts⟩ (c_M_row l D cI cJ cZ cP cS m0 mrf mki mpa mta mla msl mco mhe mso msi msh mce mca mwo mnu mte mwa mke mma mth mtr (a_3) (a_6) (a_9)  H.size) (cwV 3 hts gq_17 rfl rfl rfl (by decide +kernel) ⟨Nat.le_of_ble_eq_true rfl, Nat.le_of_ble_eq_true rfl⟩) hK hN (hZ.kept hS) hP hD hS hA [0, 1, 8, 9, 10, 12] [2, 3, 4, 5, 6, 7, 11, 13, 14, 15, 16, 17, 18, 19, 20, 21] rfl rfl (by decide) (by decide) (by decide) (va_recv hK hP (ci := 8) (q0 := 0) rfl rfl) rfl hl.1 rfl (Nat.le_of_ble_eq_true rfl) dL_law_235 ⟨Nat.le_of_ble_eq_true rfl, Nat.le_of_ble_eq_true rfl⟩ (fun r_279 u_280 H locs hr_279 hP hD hS => ?_)
    replace hP : va_P D vwCl [(mki, .inl (cI, 8, .inl (fun _ => 0))), (mpa, .inl (cI, 8, .inl (fun _ => 0))), (mta, .inl (cI, 8, .inl (fun _ => 0))), (mla, .inl (cI, 40, .inl (fun _ => 0))), (msl, .inl (cI, 40, .inl (fun _ => 0))), (mco, .inl (cI, 3, .inl (zL3 5 10 50))), (msh, .inl (cI, 8, .inl (fun _ => 0))), (mca, .inl (cJ, 160, .inr (.inl (fun _ => 0)))), (mwo, .inl (cI, 64, .inl fw_)), (mnu, .inl (cI, 10, .inl fn_)), (mte, .inl (cI, 3, .inl (fun _ => 0))), (mwa, .inl (cI, 130, .inl (fun _ => 0))), (mke, .inl (cI, 130, .inl (fun _ => 0))), (mma, .inl (cI, 3, .inl (fun _ => 0))), (mth, .inl (cI, 3, .inl (fun _ => 0))), (mtr, .inl (cI, 20, .inl (fun _ => 0)))] H := hP
    replace hD : va_D _ [(mki, .inl (cI, 8, .inl (fun _ => 0))), (mpa, .inl (cI, 8, .inl (fun _ => 0))), (mta, .inl (cI, 8, .inl (fun _ => 0))), (mla, .inl (cI, 40, .inl (fun _ => 0))), (msl, .inl (cI, 40, .inl (fun _ => 0))), (mco, .inl (cI, 3, .inl (zL3 5 10 50))), (msh, .inl (cI, 8, .inl (fun _ => 0))), (mca, .inl (cJ, 160, .inr (.inl (fun _ => 0)))), (mwo, .inl (cI, 64, .inl fw_)), (mnu, .inl (cI, 10, .inl fn_)), (mte, .inl (cI, 3, .inl (fun _ => 0))), (mwa, .inl (cI, 130, .inl (fun _ => 0))), (mke, .inl (cI, 130, .inl (fun _ => 0))), (mma, .inl (cI, 3, .inl (fun _ => 0))), (mth, .inl (cI, 3, .inl (fun _ => 0))), (mtr, .inl (cI, 20, .inl (fun _ => 0)))] := hD
    rcases hr_279 with ⟨rfl, g_281⟩ | ⟨rfl, g_282, g_283⟩ | ⟨rfl, g_284, g_285, g_286, g_287⟩ | ⟨rfl, g_288, g_289, g_290, g_291, g_292, g_293⟩ | ⟨rfl, g_294, g_295, g_296, g_297, g_298, g_299⟩ | ⟨rfl, g_300, g_301, g_302, g_303, g_304⟩ | ⟨rfl, g_305, g_306, g_307⟩
    · exfalso; omega
    · exfalso; omega
    · exfalso; omega
    · exfalso; omega
    · exfalso; omega
    · exfalso; omega
    · refine lv_icmp_eq (tgt := 1371) hx hb dL_law_238 (by decide) (fun c_308 => ?_) (fun c_308 => ?_)
      · refine lv_iinc (v := 6) (lv' := [(3, .int 6), (2, .ref m0), (1, .ref x0), (0, .ref b)]) hx hb dL_law_1371 hl (k := 0) rfl (by decide) (by decide) rfl (fun ls hl => ?_)
        refine lv_goto (tgt := 18) hx hb dL_law_1374 (by decide) ?_
        refine lv_iload_n hx hb dL_law_18 rfl (lv_at hl 0 rfl) ?_
        refine lv_aload_n hx hb dL_law_19 rfl (lv_at hl 3 rfl) ?_
        refine va_slen hx hb hX hbl hbA hS dL_law_20 ?_
        refine lv_topi (fun y_309 ey_309 => ?_)
        obtain rfl : y_309 = 6 := ey_309.trans (by decide)
        refine lv_bipush (v := 6) hx hb dL_law_21 (by decide) ?_
        refine lv_isub hx hb dL_law_23 ?_
        refine lv_topi (fun y_310 ey_310 => ?_)
        obtain rfl : y_310 = 0 := ey_310.trans (by decide)
        refine lv_icmp_gt (tgt := 1377) hx hb dL_law_24 (by decide) (fun c_311 => ?_) (fun c_311 => ?_)
        · refine lv_iconst (v := 1) hx hb dL_law_1377 (by decide) ?_
          refine va_forget (fun q hq => hS.2.2 q hq) ?_
          refine W.widen (k := 600000) (n := 7302250) (Nat.le_of_ble_eq_true rfl) (Nat.le_of_ble_eq_true rfl) ?_
          exact lw_ret hx hb hr hlocks dL_law_1378
        · exact absurd c_311 (by decide)
      · exact absurd c_308 (by decide)
set_option maxHeartbeats 8000000 in
set_option maxRecDepth 100000 in
theorem law_case_1 {p : Program} {l : Launch} {e : Env} {s : State} {m : MethodId} {below : List Frame} {meth : Method} {c : Code} {D : va_G} {cI cJ cZ cP cS : ClassId} {b : Nat} {xs_ : Nat → Int32} (x0 xs j0 k0 w0 rd mv xr z0 jp jc zl zs kz kp kc kzl kzs wk wl wc wp ri rl mb m0 mrf mki mpa mta mla msl mco mhe mso msi msh mce mca mwo mnu mte mwa mke mma mth mtr : Nat) (sh el : Nat → Nat) (fw_ fn_ : Nat → Int32) (C0 : lw_At p s m meth c b 6 xs_) (hK : va_K D vwCl (zKT cI cJ cZ cP cS) s) (hN : zN s) (hZ : zSt (fun q : Nat => s.heap.size ≤ q) s s.heap) (H : Heap) (locs : List Loc) (hP : va_P D vwCl (zLW cI cJ cZ cP cS x0 xs j0 k0 w0 rd mv xr z0 jp jc zl zs kz kp kc kzl kzs wk wl wc wp ri rl mb m0 mrf mki mpa mta mla msl mco mhe mso msi msh mce mca mwo mnu mte mwa mke mma mth mtr sh el fw_ fn_) H) (hD : va_D (fun q : Nat => s.heap.size ≤ q) (zLW cI cJ cZ cP cS x0 xs j0 k0 w0 rd mv xr z0 jp jc zl zs kz kp kc kzl kzs wk wl wc wp ri rl mb m0 mrf mki mpa mta mla msl mco mhe mso msi msh mce mca mwo mnu mte mwa mke mma mth mtr sh el fw_ fn_)) (hS : va_S (fun q : Nat => s.heap.size ≤ q) s.heap H locs) (ls : Array Slot) (hl : lv_has ls 4 [(3, .int 0), (2, .ref m0), (1, .ref x0), (0, .ref b)]) : W p l e room_1 s m #[Value.ref b] below meth c H locs 100 10000 (lw_Z below #[Value.ref b] s) (F0 m 243 ls []) := by
  obtain ⟨hx, hb, hr, hml, hown0, hts, hX, hbl, hlocks, hgv⟩ := id C0
  have hown : s.vm.findClass RL = some m.cls := hown0
  have hA : ∀ q : Nat, s.heap.size ≤ q → (fun q : Nat => s.heap.size ≤ q) q := fun _ h => h
  have hbA : ¬ (fun q : Nat => s.heap.size ≤ q) b := Nat.not_le.mpr hbl
  replace hP : va_P D vwCl ((x0, .inr (7, [.ref xs, .ref j0, .ref k0, .ref w0, .ref rd, .ref mv, .ref xr, .int 0, .int (-1)])) :: (xs, .inl (cS, 8, .inr (.inr (.inr (.inr (zS sh)))))) :: (j0, .inr (0, [.ref z0, .ref jp, .ref jc, .int 0, .int 0, .int 0, .int 60, .int 0, .int 1])) :: (z0, .inr (6, [.ref zl, .ref zs, .int 20, .int 0, .int 3])) :: (zl, .inl (cZ, 40, .inl (fun _ => 0))) :: (zs, .inl (cI, 40, .inl (fun _ => 0))) :: (jp, .inl (cP, 8, .inr (.inr (.inr (.inr (fun _ => none)))))) :: (jc, .inl (cI, 3, .inl (zL3 5 10 50))) :: (k0, .inr (0, [.ref kz, .ref kp, .ref kc, .int 0, .int 0, .int 0, .int 60, .int 0, .int 1])) :: (kz, .inr (6, [.ref kzl, .ref kzs, .int 20, .int 0, .int 3])) :: (kzl, .inl (cZ, 40, .inl (fun _ => 0))) :: (kzs, .inl (cI, 40, .inl (fun _ => 0))) :: (kp, .inl (cP, 8, .inr (.inr (.inr (.inr (fun _ => none)))))) :: (kc, .inl (cI, 3, .inl (zL3 5 10 50))) :: (w0, .inr (5, [.ref wk, .ref wl, .ref wc, .ref wp, .int 0, .int 0, .int 0])) :: (wk, .inl (cI, 125, .inl (fun _ => 0))) :: (wl, .inl (cI, 125, .inl (fun _ => 0))) :: (wc, .inl (cI, 3, .inl (fun _ => 0))) :: (wp, .inl (cP, 8, .inr (.inr (.inr (.inr (fun _ => none)))))) :: (rd, .inr (3, [.ref ri, .ref rl, .int 0, .int 0, .int 0, .int (-1), .int 0, .int 0])) :: (ri, .inl (cI, 132, .inl (fun _ => 0))) :: (rl, .inl (cI, 160, .inl (fun _ => 0))) :: (mv, .inr (1, [.ref mb, .int 0, .int 0, .int 0, .int 0])) :: (mb, .inl (cI, 20, .inl (fun _ => 0))) :: (xr, .inl (cI, 8, .inl (fun _ => 0))) :: ((sh 0), .inr (4, [.ref (el 0), .int (-1), .int 0])) :: ((el 0), .inl (cJ, 160, .inr (.inl (fun _ => 0)))) :: ((sh 1), .inr (4, [.ref (el 1), .int (-1), .int 0])) :: ((el 1), .inl (cJ, 160, .inr (.inl (fun _ => 0)))) :: ((sh 2), .inr (4, [.ref (el 2), .int (-1), .int 0])) :: ((el 2), .inl (cJ, 160, .inr (.inl (fun _ => 0)))) :: ((sh 3), .inr (4, [.ref (el 3), .int (-1), .int 0])) :: ((el 3), .inl (cJ, 160, .inr (.inl (fun _ => 0)))) :: ((sh 4), .inr (4, [.ref (el 4), .int (-1), .int 0])) :: ((el 4), .inl (cJ, 160, .inr (.inl (fun _ => 0)))) :: ((sh 5), .inr (4, [.ref (el 5), .int (-1), .int 0])) :: ((el 5), .inl (cJ, 160, .inr (.inl (fun _ => 0)))) :: ((sh 6), .inr (4, [.ref (el 6), .int (-1), .int 0])) :: ((el 6), .inl (cJ, 160, .inr (.inl (fun _ => 0)))) :: ((sh 7), .inr (4, [.ref (el 7), .int (-1), .int 0])) :: ((el 7), .inl (cJ, 160, .inr (.inl (fun _ => 0)))) :: (m0, .inr (8, (.int 0 :: .int 20 :: .int 0 :: .int 0 :: .int 0 :: .int 60 :: .int 0 :: .int 3 :: .int 1 :: .int (-1) :: .ref mrf :: .ref mki :: .ref mpa :: .ref mta :: .ref mla :: .ref msl :: .ref mco :: .ref mhe :: .ref mso :: .ref msi :: .ref msh :: .ref mce :: .ref mca :: .ref mwo :: .ref mnu :: .ref mte :: .int 0 :: .int 0 :: .int 0 :: .int 0 :: .int 0 :: .ref mwa :: .ref mke :: .ref mma :: .ref mth :: .ref mtr :: .int 0 :: .int 0 :: []))) :: (mrf, .inl (cI, 8, .inl (fun _ => 0))) :: (mki, .inl (cI, 8, .inl (fun _ => 0))) :: (mpa, .inl (cI, 8, .inl (fun _ => 0))) :: (mta, .inl (cI, 8, .inl (fun _ => 0))) :: (mla, .inl (cI, 40, .inl (fun _ => 0))) :: (msl, .inl (cI, 40, .inl (fun _ => 0))) :: (mco, .inl (cI, 3, .inl (zL3 5 10 50))) :: (mhe, .inl (cI, 8, .inl (fun _ => 0))) :: (mso, .inl (cI, 8, .inl (fun _ => 0))) :: (msi, .inl (cI, 8, .inl (fun _ => 0))) :: (msh, .inl (cI, 8, .inl (fun _ => 0))) :: (mce, .inl (cJ, 1280, .inr (.inl (fun _ => 0)))) :: (mca, .inl (cJ, 160, .inr (.inl (fun _ => 0)))) :: (mwo, .inl (cI, 64, .inl fw_)) :: (mnu, .inl (cI, 10, .inl fn_)) :: (mte, .inl (cI, 3, .inl (fun _ => 0))) :: (mwa, .inl (cI, 130, .inl (fun _ => 0))) :: (mke, .inl (cI, 130, .inl (fun _ => 0))) :: (mma, .inl (cI, 3, .inl (fun _ => 0))) :: (mth, .inl (cI, 3, .inl (fun _ => 0))) :: (mtr, .inl (cI, 20, .inl (fun _ => 0))) :: []) H := hP
  replace hD : va_D _ ((x0, .inr (7, [.ref xs, .ref j0, .ref k0, .ref w0, .ref rd, .ref mv, .ref xr, .int 0, .int (-1)])) :: (xs, .inl (cS, 8, .inr (.inr (.inr (.inr (zS sh)))))) :: (j0, .inr (0, [.ref z0, .ref jp, .ref jc, .int 0, .int 0, .int 0, .int 60, .int 0, .int 1])) :: (z0, .inr (6, [.ref zl, .ref zs, .int 20, .int 0, .int 3])) :: (zl, .inl (cZ, 40, .inl (fun _ => 0))) :: (zs, .inl (cI, 40, .inl (fun _ => 0))) :: (jp, .inl (cP, 8, .inr (.inr (.inr (.inr (fun _ => none)))))) :: (jc, .inl (cI, 3, .inl (zL3 5 10 50))) :: (k0, .inr (0, [.ref kz, .ref kp, .ref kc, .int 0, .int 0, .int 0, .int 60, .int 0, .int 1])) :: (kz, .inr (6, [.ref kzl, .ref kzs, .int 20, .int 0, .int 3])) :: (kzl, .inl (cZ, 40, .inl (fun _ => 0))) :: (kzs, .inl (cI, 40, .inl (fun _ => 0))) :: (kp, .inl (cP, 8, .inr (.inr (.inr (.inr (fun _ => none)))))) :: (kc, .inl (cI, 3, .inl (zL3 5 10 50))) :: (w0, .inr (5, [.ref wk, .ref wl, .ref wc, .ref wp, .int 0, .int 0, .int 0])) :: (wk, .inl (cI, 125, .inl (fun _ => 0))) :: (wl, .inl (cI, 125, .inl (fun _ => 0))) :: (wc, .inl (cI, 3, .inl (fun _ => 0))) :: (wp, .inl (cP, 8, .inr (.inr (.inr (.inr (fun _ => none)))))) :: (rd, .inr (3, [.ref ri, .ref rl, .int 0, .int 0, .int 0, .int (-1), .int 0, .int 0])) :: (ri, .inl (cI, 132, .inl (fun _ => 0))) :: (rl, .inl (cI, 160, .inl (fun _ => 0))) :: (mv, .inr (1, [.ref mb, .int 0, .int 0, .int 0, .int 0])) :: (mb, .inl (cI, 20, .inl (fun _ => 0))) :: (xr, .inl (cI, 8, .inl (fun _ => 0))) :: ((sh 0), .inr (4, [.ref (el 0), .int (-1), .int 0])) :: ((el 0), .inl (cJ, 160, .inr (.inl (fun _ => 0)))) :: ((sh 1), .inr (4, [.ref (el 1), .int (-1), .int 0])) :: ((el 1), .inl (cJ, 160, .inr (.inl (fun _ => 0)))) :: ((sh 2), .inr (4, [.ref (el 2), .int (-1), .int 0])) :: ((el 2), .inl (cJ, 160, .inr (.inl (fun _ => 0)))) :: ((sh 3), .inr (4, [.ref (el 3), .int (-1), .int 0])) :: ((el 3), .inl (cJ, 160, .inr (.inl (fun _ => 0)))) :: ((sh 4), .inr (4, [.ref (el 4), .int (-1), .int 0])) :: ((el 4), .inl (cJ, 160, .inr (.inl (fun _ => 0)))) :: ((sh 5), .inr (4, [.ref (el 5), .int (-1), .int 0])) :: ((el 5), .inl (cJ, 160, .inr (.inl (fun _ => 0)))) :: ((sh 6), .inr (4, [.ref (el 6), .int (-1), .int 0])) :: ((el 6), .inl (cJ, 160, .inr (.inl (fun _ => 0)))) :: ((sh 7), .inr (4, [.ref (el 7), .int (-1), .int 0])) :: ((el 7), .inl (cJ, 160, .inr (.inl (fun _ => 0)))) :: (m0, .inr (8, (.int 0 :: .int 20 :: .int 0 :: .int 0 :: .int 0 :: .int 60 :: .int 0 :: .int 3 :: .int 1 :: .int (-1) :: .ref mrf :: .ref mki :: .ref mpa :: .ref mta :: .ref mla :: .ref msl :: .ref mco :: .ref mhe :: .ref mso :: .ref msi :: .ref msh :: .ref mce :: .ref mca :: .ref mwo :: .ref mnu :: .ref mte :: .int 0 :: .int 0 :: .int 0 :: .int 0 :: .int 0 :: .ref mwa :: .ref mke :: .ref mma :: .ref mth :: .ref mtr :: .int 0 :: .int 0 :: []))) :: (mrf, .inl (cI, 8, .inl (fun _ => 0))) :: (mki, .inl (cI, 8, .inl (fun _ => 0))) :: (mpa, .inl (cI, 8, .inl (fun _ => 0))) :: (mta, .inl (cI, 8, .inl (fun _ => 0))) :: (mla, .inl (cI, 40, .inl (fun _ => 0))) :: (msl, .inl (cI, 40, .inl (fun _ => 0))) :: (mco, .inl (cI, 3, .inl (zL3 5 10 50))) :: (mhe, .inl (cI, 8, .inl (fun _ => 0))) :: (mso, .inl (cI, 8, .inl (fun _ => 0))) :: (msi, .inl (cI, 8, .inl (fun _ => 0))) :: (msh, .inl (cI, 8, .inl (fun _ => 0))) :: (mce, .inl (cJ, 1280, .inr (.inl (fun _ => 0)))) :: (mca, .inl (cJ, 160, .inr (.inl (fun _ => 0)))) :: (mwo, .inl (cI, 64, .inl fw_)) :: (mnu, .inl (cI, 10, .inl fn_)) :: (mte, .inl (cI, 3, .inl (fun _ => 0))) :: (mwa, .inl (cI, 130, .inl (fun _ => 0))) :: (mke, .inl (cI, 130, .inl (fun _ => 0))) :: (mma, .inl (cI, 3, .inl (fun _ => 0))) :: (mth, .inl (cI, 3, .inl (fun _ => 0))) :: (mtr, .inl (cI, 20, .inl (fun _ => 0))) :: []) := hD
  refine lv_aload_n hx hb dL_law_243 rfl (lv_at hl 2 rfl) ?_
  refine lv_aload_n hx hb dL_law_244 rfl (lv_at hl 3 rfl) ?_
  refine lv_iload_n hx hb dL_law_245 rfl (lv_at hl 0 rfl) ?_
  refine lv_iconst (v := 1) hx hb dL_law_246 (by decide) ?_
  refine lv_iadd hx hb dL_law_247 ?_
  refine lv_topi (fun y_1 ey_1 => ?_)
  obtain rfl : y_1 = 1 := ey_1.trans (by decide)
  refine va_sld hx hb hX hbl hbA hS (zf_in (by decide) (by decide)) dL_law_248 ?_
  refine lv_topi (fun a_3 ea_3 => ?_)
  refine lv_aload_n hx hb dL_law_249 rfl (lv_at hl 3 rfl) ?_
  refine lv_iload_n hx hb dL_law_250 rfl (lv_at hl 0 rfl) ?_
  refine lv_iconst (v := 2) hx hb dL_law_251 (by decide) ?_
  refine lv_iadd hx hb dL_law_252 ?_
  refine lv_topi (fun y_4 ey_4 => ?_)
  obtain rfl : y_4 = 2 := ey_4.trans (by decide)
  refine va_sld hx hb hX hbl hbA hS (zf_in (by decide) (by decide)) dL_law_253 ?_
  refine lv_topi (fun a_6 ea_6 => ?_)
  refine lv_aload_n hx hb dL_law_254 rfl (lv_at hl 3 rfl) ?_
  refine lv_iload_n hx hb dL_law_255 rfl (lv_at hl 0 rfl) ?_
  refine lv_iconst (v := 3) hx hb dL_law_256 (by decide) ?_
  refine lv_iadd hx hb dL_law_257 ?_
  refine lv_topi (fun y_7 ey_7 => ?_)
  obtain rfl : y_7 = 3 := ey_7.trans (by decide)
  refine va_sld hx hb hX hbl hbA hS (zf_in (by decide) (by decide)) dL_law_258 ?_
  refine lv_topi (fun a_9 ea_9 => ?_)
  refine lv_i2l hx hb dL_law_259 rfl ?_
  refine lv_topl (fun y_10 ey_10 => ?_)
  refine lv_bipush (v := 32) hx hb dL_law_260 (by decide) ?_
  refine lv_lshl hx hb dL_law_262 rfl ?_
  refine lv_topl (fun y_11 ey_11 => ?_)
  refine lv_aload_n hx hb dL_law_263 rfl (lv_at hl 3 rfl) ?_
  refine lv_iload_n hx hb dL_law_264 rfl (lv_at hl 0 rfl) ?_
  refine lv_iconst (v := 4) hx hb dL_law_265 (by decide) ?_
  refine lv_iadd hx hb dL_law_266 ?_
  refine lv_topi (fun y_12 ey_12 => ?_)
  obtain rfl : y_12 = 4 := ey_12.trans (by decide)
  refine va_sld hx hb hX hbl hbA hS (zf_in (by decide) (by decide)) dL_law_267 ?_
  refine lv_topi (fun a_14 ea_14 => ?_)
  refine lv_i2l hx hb dL_law_268 rfl ?_
  refine lv_topl (fun y_15 ey_15 => ?_)
  refine lv_ldc2 (own := RL) (v := 4294967295) hx hb hown (hts (Cond.constantLong RL 18 (4294967295)) zg_248.1) dL_law_269 ?_
  refine lv_topl (fun y_16 ey_16 => ?_)
  refine lv_land hx hb dL_law_272 ?_
  refine lv_topl (fun y_17 ey_17 => ?_)
  refine lv_lor hx hb dL_law_273 ?_
  refine lv_topl (fun y_18 ey_18 => ?_)
  skip
  refine zw_V (As := [.int a_3, .int a_6, .long y_18]) (rest := []) (wr := ((m0, .inr (8, (.int 0 :: .int 20 :: .int 0 :: .int 0 :: .int 0 :: .int 60 :: .int 0 :: .int 3 :: .int 1 :: .int (-1) :: .ref mrf :: .ref mki :: .ref mpa :: .ref mta :: .ref mla :: .ref msl :: .ref mco :: .ref mhe :: .ref mso :: .ref msi :: .ref msh :: .ref mce :: .ref mca :: .ref mwo :: .ref mnu :: .ref mte :: .int 0 :: .int 0 :: .int 0 :: .int 0 :: .int 0 :: .ref mwa :: .ref mke :: .ref mma :: .ref mth :: .ref mtr :: .int 0 :: .int 0 :: []))) :: (mrf, .inl (cI, 8, .inl (fun _ => 0))) :: (mki, .inl (cI, 8, .inl (fun _ => 0))) :: (mpa, .inl (cI, 8, .inl (fun _ => 0))) :: (mta, .inl (cI, 8, .inl (fun _ => 0))) :: (mla, .inl (cI, 40, .inl (fun _ => 0))) :: (msl, .inl (cI, 40, .inl (fun _ => 0))) :: (mco, .inl (cI, 3, .inl (zL3 5 10 50))) :: (mhe, .inl (cI, 8, .inl (fun _ => 0))) :: (mso, .inl (cI, 8, .inl (fun _ => 0))) :: (msi, .inl (cI, 8, .inl (fun _ => 0))) :: (msh, .inl (cI, 8, .inl (fun _ => 0))) :: (mce, .inl (cJ, 1280, .inr (.inl (fun _ => 0)))) :: (mca, .inl (cJ, 160, .inr (.inl (fun _ => 0)))) :: (mwo, .inl (cI, 64, .inl fw_)) :: (mnu, .inl (cI, 10, .inl fn_)) :: (mte, .inl (cI, 3, .inl (fun _ => 0))) :: (mwa, .inl (cI, 130, .inl (fun _ => 0))) :: (mke, .inl (cI, 130, .inl (fun _ => 0))) :: (mma, .inl (cI, 3, .inl (fun _ => 0))) :: (mth, .inl (cI, 3, .inl (fun _ => 0))) :: (mtr, .inl (cI, 20, .inl (fun _ => 0))) :: [])) ⟨hx, hb, hml, hown, hts⟩ (c_set l D cI cJ cZ cP cS x0 xs j0 k0 w0 rd mv xr sh el (a_3) (a_6) (y_18)  H.size) (cwV 3 hts gq_20 rfl rfl rfl (by decide +kernel) ⟨Nat.le_of_ble_eq_true rfl, Nat.le_of_ble_eq_true rfl⟩) hK hN (hZ.kept hS) hP hD hS hA [0, 24, 1, 25, 27, 29, 31, 33, 35, 37, 39] [41, 42, 43, 44, 45, 46, 47, 48, 49, 50, 51, 52, 53, 54, 55, 56, 57, 58, 59, 60, 61, 62] rfl rfl (by decide) (by decide) (by decide) (va_recv hK hP (ci := 7) (q0 := 0) rfl rfl) rfl hl.1 rfl (Nat.le_of_ble_eq_true rfl) dL_law_274 ⟨Nat.le_of_ble_eq_true rfl, Nat.le_of_ble_eq_true rfl⟩ (fun r_19 u_20 H locs hr_19 hP hD hS => ?_)
  replace hP : va_P D vwCl ((m0, .inr (8, (.int 0 :: .int 20 :: .int 0 :: .int 0 :: .int 0 :: .int 60 :: .int 0 :: .int 3 :: .int 1 :: .int (-1) :: .ref mrf :: .ref mki :: .ref mpa :: .ref mta :: .ref mla :: .ref msl :: .ref mco :: .ref mhe :: .ref mso :: .ref msi :: .ref msh :: .ref mce :: .ref mca :: .ref mwo :: .ref mnu :: .ref mte :: .int 0 :: .int 0 :: .int 0 :: .int 0 :: .int 0 :: .ref mwa :: .ref mke :: .ref mma :: .ref mth :: .ref mtr :: .int 0 :: .int 0 :: []))) :: (mrf, .inl (cI, 8, .inl (fun _ => 0))) :: (mki, .inl (cI, 8, .inl (fun _ => 0))) :: (mpa, .inl (cI, 8, .inl (fun _ => 0))) :: (mta, .inl (cI, 8, .inl (fun _ => 0))) :: (mla, .inl (cI, 40, .inl (fun _ => 0))) :: (msl, .inl (cI, 40, .inl (fun _ => 0))) :: (mco, .inl (cI, 3, .inl (zL3 5 10 50))) :: (mhe, .inl (cI, 8, .inl (fun _ => 0))) :: (mso, .inl (cI, 8, .inl (fun _ => 0))) :: (msi, .inl (cI, 8, .inl (fun _ => 0))) :: (msh, .inl (cI, 8, .inl (fun _ => 0))) :: (mce, .inl (cJ, 1280, .inr (.inl (fun _ => 0)))) :: (mca, .inl (cJ, 160, .inr (.inl (fun _ => 0)))) :: (mwo, .inl (cI, 64, .inl fw_)) :: (mnu, .inl (cI, 10, .inl fn_)) :: (mte, .inl (cI, 3, .inl (fun _ => 0))) :: (mwa, .inl (cI, 130, .inl (fun _ => 0))) :: (mke, .inl (cI, 130, .inl (fun _ => 0))) :: (mma, .inl (cI, 3, .inl (fun _ => 0))) :: (mth, .inl (cI, 3, .inl (fun _ => 0))) :: (mtr, .inl (cI, 20, .inl (fun _ => 0))) :: []) H := hP
  replace hD : va_D _ ((m0, .inr (8, (.int 0 :: .int 20 :: .int 0 :: .int 0 :: .int 0 :: .int 60 :: .int 0 :: .int 3 :: .int 1 :: .int (-1) :: .ref mrf :: .ref mki :: .ref mpa :: .ref mta :: .ref mla :: .ref msl :: .ref mco :: .ref mhe :: .ref mso :: .ref msi :: .ref msh :: .ref mce :: .ref mca :: .ref mwo :: .ref mnu :: .ref mte :: .int 0 :: .int 0 :: .int 0 :: .int 0 :: .int 0 :: .ref mwa :: .ref mke :: .ref mma :: .ref mth :: .ref mtr :: .int 0 :: .int 0 :: []))) :: (mrf, .inl (cI, 8, .inl (fun _ => 0))) :: (mki, .inl (cI, 8, .inl (fun _ => 0))) :: (mpa, .inl (cI, 8, .inl (fun _ => 0))) :: (mta, .inl (cI, 8, .inl (fun _ => 0))) :: (mla, .inl (cI, 40, .inl (fun _ => 0))) :: (msl, .inl (cI, 40, .inl (fun _ => 0))) :: (mco, .inl (cI, 3, .inl (zL3 5 10 50))) :: (mhe, .inl (cI, 8, .inl (fun _ => 0))) :: (mso, .inl (cI, 8, .inl (fun _ => 0))) :: (msi, .inl (cI, 8, .inl (fun _ => 0))) :: (msh, .inl (cI, 8, .inl (fun _ => 0))) :: (mce, .inl (cJ, 1280, .inr (.inl (fun _ => 0)))) :: (mca, .inl (cJ, 160, .inr (.inl (fun _ => 0)))) :: (mwo, .inl (cI, 64, .inl fw_)) :: (mnu, .inl (cI, 10, .inl fn_)) :: (mte, .inl (cI, 3, .inl (fun _ => 0))) :: (mwa, .inl (cI, 130, .inl (fun _ => 0))) :: (mke, .inl (cI, 130, .inl (fun _ => 0))) :: (mma, .inl (cI, 3, .inl (fun _ => 0))) :: (mth, .inl (cI, 3, .inl (fun _ => 0))) :: (mtr, .inl (cI, 20, .inl (fun _ => 0))) :: []) := hD
  rcases hr_19 with ⟨rfl, g_21⟩ | ⟨rfl, g_22, g_23⟩ | ⟨rfl, g_24, g_25⟩
  · refine lv_aload_n hx hb dL_law_277 rfl (lv_at hl 1 rfl) ?_
    refine lv_aload_n hx hb dL_law_278 rfl (lv_at hl 3 rfl) ?_
    refine lv_iload_n hx hb dL_law_279 rfl (lv_at hl 0 rfl) ?_
    refine lv_iconst (v := 1) hx hb dL_law_280 (by decide) ?_
    refine lv_iadd hx hb dL_law_281 ?_
    refine lv_topi (fun y_26 ey_26 => ?_)
    obtain rfl : y_26 = 1 := ey_26.trans (by decide)
    refine va_sld hx hb hX hbl hbA hS (zf_in (by decide) (by decide)) dL_law_282 ?_
    refine lv_topi (fun y_27 ey_27 => ?_)
    obtain rfl : a_3 = y_27 := ea_3.trans ey_27.symm
    refine lv_aload_n hx hb dL_law_283 rfl (lv_at hl 3 rfl) ?_
    refine lv_iload_n hx hb dL_law_284 rfl (lv_at hl 0 rfl) ?_
    refine lv_iconst (v := 2) hx hb dL_law_285 (by decide) ?_
    refine lv_iadd hx hb dL_law_286 ?_
    refine lv_topi (fun y_28 ey_28 => ?_)
    obtain rfl : y_28 = 2 := ey_28.trans (by decide)
    refine va_sld hx hb hX hbl hbA hS (zf_in (by decide) (by decide)) dL_law_287 ?_
    refine lv_topi (fun y_29 ey_29 => ?_)
    obtain rfl : a_6 = y_29 := ea_6.trans ey_29.symm
    refine lv_aload_n hx hb dL_law_288 rfl (lv_at hl 3 rfl) ?_
    refine lv_iload_n hx hb dL_law_289 rfl (lv_at hl 0 rfl) ?_
    refine lv_iconst (v := 3) hx hb dL_law_290 (by decide) ?_
    refine lv_iadd hx hb dL_law_291 ?_
    refine lv_topi (fun y_30 ey_30 => ?_)
    obtain rfl : y_30 = 3 := ey_30.trans (by decide)
    refine va_sld hx hb hX hbl hbA hS (zf_in (by decide) (by decide)) dL_law_292 ?_
    refine lv_topi (fun y_31 ey_31 => ?_)
    obtain rfl : a_9 = y_31 := ea_9.trans ey_31.symm
    refine lv_i2l hx hb dL_law_293 rfl ?_
    refine lv_topl (fun y_32 ey_32 => ?_)
    refine lv_bipush (v := 32) hx hb dL_law_294 (by decide) ?_
    refine lv_lshl hx hb dL_law_296 rfl ?_
    refine lv_topl (fun y_33 ey_33 => ?_)
    refine lv_aload_n hx hb dL_law_297 rfl (lv_at hl 3 rfl) ?_
    refine lv_iload_n hx hb dL_law_298 rfl (lv_at hl 0 rfl) ?_
    refine lv_iconst (v := 4) hx hb dL_law_299 (by decide) ?_
    refine lv_iadd hx hb dL_law_300 ?_
    refine lv_topi (fun y_34 ey_34 => ?_)
    obtain rfl : y_34 = 4 := ey_34.trans (by decide)
    refine va_sld hx hb hX hbl hbA hS (zf_in (by decide) (by decide)) dL_law_301 ?_
    refine lv_topi (fun y_35 ey_35 => ?_)
    obtain rfl : a_14 = y_35 := ea_14.trans ey_35.symm
    refine lv_i2l hx hb dL_law_302 rfl ?_
    refine lv_topl (fun y_36 ey_36 => ?_)
    refine lv_ldc2 (own := RL) (v := 4294967295) hx hb hown (hts (Cond.constantLong RL 18 (4294967295)) zg_248.1) dL_law_303 ?_
    refine lv_topl (fun y_37 ey_37 => ?_)
    refine lv_land hx hb dL_law_306 ?_
    refine lv_topl (fun y_38 ey_38 => ?_)
    refine lv_lor hx hb dL_law_307 ?_
    refine lv_topl (fun y_39 ey_39 => ?_)
    skip
    refine zw_V (As := [.int a_3, .int a_6, .long y_39]) (rest := [.int (-1)]) (wr := [(mki, .inl (cI, 8, .inl (fun _ => 0))), (mpa, .inl (cI, 8, .inl (fun _ => 0))), (mta, .inl (cI, 8, .inl (fun _ => 0))), (mla, .inl (cI, 40, .inl (fun _ => 0))), (msl, .inl (cI, 40, .inl (fun _ => 0))), (mco, .inl (cI, 3, .inl (zL3 5 10 50))), (mso, .inl (cI, 8, .inl (fun _ => 0))), (msi, .inl (cI, 8, .inl (fun _ => 0))), (msh, .inl (cI, 8, .inl (fun _ => 0))), (mce, .inl (cJ, 1280, .inr (.inl (fun _ => 0)))), (mca, .inl (cJ, 160, .inr (.inl (fun _ => 0)))), (mwo, .inl (cI, 64, .inl fw_)), (mnu, .inl (cI, 10, .inl fn_)), (mte, .inl (cI, 3, .inl (fun _ => 0))), (mwa, .inl (cI, 130, .inl (fun _ => 0))), (mke, .inl (cI, 130, .inl (fun _ => 0))), (mma, .inl (cI, 3, .inl (fun _ => 0))), (mth, .inl (cI, 3, .inl (fun _ => 0))), (mtr, .inl (cI, 20, .inl (fun _ => 0)))]) ⟨hx, hb, hml, hown, hts⟩ (c_M_set l D cI cJ cZ cP cS m0 mrf mki mpa mta mla msl mco mhe mso msi msh mce mca mwo mnu mte mwa mke mma mth mtr (a_3) (a_6) (y_39)  H.size) (cwV 3 hts gq_24 rfl rfl rfl (by decide +kernel) ⟨Nat.le_of_ble_eq_true rfl, Nat.le_of_ble_eq_true rfl⟩) hK hN (hZ.kept hS) hP hD hS hA [0, 1, 8] [2, 3, 4, 5, 6, 7, 9, 10, 11, 12, 13, 14, 15, 16, 17, 18, 19, 20, 21] rfl rfl (by decide) (by decide) (by decide) (va_recv hK hP (ci := 8) (q0 := 0) rfl rfl) rfl hl.1 rfl (Nat.le_of_ble_eq_true rfl) dL_law_308 ⟨Nat.le_of_ble_eq_true rfl, Nat.le_of_ble_eq_true rfl⟩ (fun r_40 u_41 H locs hr_40 hP hD hS => ?_)
    replace hP : va_P D vwCl [(mki, .inl (cI, 8, .inl (fun _ => 0))), (mpa, .inl (cI, 8, .inl (fun _ => 0))), (mta, .inl (cI, 8, .inl (fun _ => 0))), (mla, .inl (cI, 40, .inl (fun _ => 0))), (msl, .inl (cI, 40, .inl (fun _ => 0))), (mco, .inl (cI, 3, .inl (zL3 5 10 50))), (mso, .inl (cI, 8, .inl (fun _ => 0))), (msi, .inl (cI, 8, .inl (fun _ => 0))), (msh, .inl (cI, 8, .inl (fun _ => 0))), (mce, .inl (cJ, 1280, .inr (.inl (fun _ => 0)))), (mca, .inl (cJ, 160, .inr (.inl (fun _ => 0)))), (mwo, .inl (cI, 64, .inl fw_)), (mnu, .inl (cI, 10, .inl fn_)), (mte, .inl (cI, 3, .inl (fun _ => 0))), (mwa, .inl (cI, 130, .inl (fun _ => 0))), (mke, .inl (cI, 130, .inl (fun _ => 0))), (mma, .inl (cI, 3, .inl (fun _ => 0))), (mth, .inl (cI, 3, .inl (fun _ => 0))), (mtr, .inl (cI, 20, .inl (fun _ => 0)))] H := hP
    replace hD : va_D _ [(mki, .inl (cI, 8, .inl (fun _ => 0))), (mpa, .inl (cI, 8, .inl (fun _ => 0))), (mta, .inl (cI, 8, .inl (fun _ => 0))), (mla, .inl (cI, 40, .inl (fun _ => 0))), (msl, .inl (cI, 40, .inl (fun _ => 0))), (mco, .inl (cI, 3, .inl (zL3 5 10 50))), (mso, .inl (cI, 8, .inl (fun _ => 0))), (msi, .inl (cI, 8, .inl (fun _ => 0))), (msh, .inl (cI, 8, .inl (fun _ => 0))), (mce, .inl (cJ, 1280, .inr (.inl (fun _ => 0)))), (mca, .inl (cJ, 160, .inr (.inl (fun _ => 0)))), (mwo, .inl (cI, 64, .inl fw_)), (mnu, .inl (cI, 10, .inl fn_)), (mte, .inl (cI, 3, .inl (fun _ => 0))), (mwa, .inl (cI, 130, .inl (fun _ => 0))), (mke, .inl (cI, 130, .inl (fun _ => 0))), (mma, .inl (cI, 3, .inl (fun _ => 0))), (mth, .inl (cI, 3, .inl (fun _ => 0))), (mtr, .inl (cI, 20, .inl (fun _ => 0)))] := hD
    rcases hr_40 with ⟨rfl, g_42⟩ | ⟨rfl, g_43, g_44⟩ | ⟨rfl, g_45, g_46⟩
    · refine lv_icmp_eq (tgt := 1371) hx hb dL_law_311 (by decide) (fun c_47 => ?_) (fun c_47 => ?_)
      · refine lv_iinc (v := 6) (lv' := [(3, .int 6), (2, .ref m0), (1, .ref x0), (0, .ref b)]) hx hb dL_law_1371 hl (k := 0) rfl (by decide) (by decide) rfl (fun ls hl => ?_)
        refine lv_goto (tgt := 18) hx hb dL_law_1374 (by decide) ?_
        refine lv_iload_n hx hb dL_law_18 rfl (lv_at hl 0 rfl) ?_
        refine lv_aload_n hx hb dL_law_19 rfl (lv_at hl 3 rfl) ?_
        refine va_slen hx hb hX hbl hbA hS dL_law_20 ?_
        refine lv_topi (fun y_48 ey_48 => ?_)
        obtain rfl : y_48 = 6 := ey_48.trans (by decide)
        refine lv_bipush (v := 6) hx hb dL_law_21 (by decide) ?_
        refine lv_isub hx hb dL_law_23 ?_
        refine lv_topi (fun y_49 ey_49 => ?_)
        obtain rfl : y_49 = 0 := ey_49.trans (by decide)
        refine lv_icmp_gt (tgt := 1377) hx hb dL_law_24 (by decide) (fun c_50 => ?_) (fun c_50 => ?_)
        · refine lv_iconst (v := 1) hx hb dL_law_1377 (by decide) ?_
          refine va_forget (fun q hq => hS.2.2 q hq) ?_
          refine W.widen (k := 600000) (n := 7302250) (Nat.le_of_ble_eq_true rfl) (Nat.le_of_ble_eq_true rfl) ?_
          exact lw_ret hx hb hr hlocks dL_law_1378
        · exact absurd c_50 (by decide)
      · exact absurd c_47 (by decide)
    · exfalso; omega
    · exfalso; omega
  · refine lv_aload_n hx hb dL_law_277 rfl (lv_at hl 1 rfl) ?_
    refine lv_aload_n hx hb dL_law_278 rfl (lv_at hl 3 rfl) ?_
    refine lv_iload_n hx hb dL_law_279 rfl (lv_at hl 0 rfl) ?_
    refine lv_iconst (v := 1) hx hb dL_law_280 (by decide) ?_
    refine lv_iadd hx hb dL_law_281 ?_
    refine lv_topi (fun y_51 ey_51 => ?_)
    obtain rfl : y_51 = 1 := ey_51.trans (by decide)
    refine va_sld hx hb hX hbl hbA hS (zf_in (by decide) (by decide)) dL_law_282 ?_
    refine lv_topi (fun y_52 ey_52 => ?_)
    obtain rfl : a_3 = y_52 := ea_3.trans ey_52.symm
    refine lv_aload_n hx hb dL_law_283 rfl (lv_at hl 3 rfl) ?_
    refine lv_iload_n hx hb dL_law_284 rfl (lv_at hl 0 rfl) ?_
    refine lv_iconst (v := 2) hx hb dL_law_285 (by decide) ?_
    refine lv_iadd hx hb dL_law_286 ?_
    refine lv_topi (fun y_53 ey_53 => ?_)
    obtain rfl : y_53 = 2 := ey_53.trans (by decide)
    refine va_sld hx hb hX hbl hbA hS (zf_in (by decide) (by decide)) dL_law_287 ?_
    refine lv_topi (fun y_54 ey_54 => ?_)
    obtain rfl : a_6 = y_54 := ea_6.trans ey_54.symm
    refine lv_aload_n hx hb dL_law_288 rfl (lv_at hl 3 rfl) ?_
    refine lv_iload_n hx hb dL_law_289 rfl (lv_at hl 0 rfl) ?_
    refine lv_iconst (v := 3) hx hb dL_law_290 (by decide) ?_
    refine lv_iadd hx hb dL_law_291 ?_
    refine lv_topi (fun y_55 ey_55 => ?_)
    obtain rfl : y_55 = 3 := ey_55.trans (by decide)
    refine va_sld hx hb hX hbl hbA hS (zf_in (by decide) (by decide)) dL_law_292 ?_
    refine lv_topi (fun y_56 ey_56 => ?_)
    obtain rfl : a_9 = y_56 := ea_9.trans ey_56.symm
    refine lv_i2l hx hb dL_law_293 rfl ?_
    refine lv_topl (fun y_57 ey_57 => ?_)
    refine lv_bipush (v := 32) hx hb dL_law_294 (by decide) ?_
    refine lv_lshl hx hb dL_law_296 rfl ?_
    refine lv_topl (fun y_58 ey_58 => ?_)
    refine lv_aload_n hx hb dL_law_297 rfl (lv_at hl 3 rfl) ?_
    refine lv_iload_n hx hb dL_law_298 rfl (lv_at hl 0 rfl) ?_
    refine lv_iconst (v := 4) hx hb dL_law_299 (by decide) ?_
    refine lv_iadd hx hb dL_law_300 ?_
    refine lv_topi (fun y_59 ey_59 => ?_)
    obtain rfl : y_59 = 4 := ey_59.trans (by decide)
    refine va_sld hx hb hX hbl hbA hS (zf_in (by decide) (by decide)) dL_law_301 ?_
    refine lv_topi (fun y_60 ey_60 => ?_)
    obtain rfl : a_14 = y_60 := ea_14.trans ey_60.symm
    refine lv_i2l hx hb dL_law_302 rfl ?_
    refine lv_topl (fun y_61 ey_61 => ?_)
    refine lv_ldc2 (own := RL) (v := 4294967295) hx hb hown (hts (Cond.constantLong RL 18 (4294967295)) zg_248.1) dL_law_303 ?_
    refine lv_topl (fun y_62 ey_62 => ?_)
    refine lv_land hx hb dL_law_306 ?_
    refine lv_topl (fun y_63 ey_63 => ?_)
    refine lv_lor hx hb dL_law_307 ?_
    refine lv_topl (fun y_64 ey_64 => ?_)
    skip
    refine zw_V (As := [.int a_3, .int a_6, .long y_64]) (rest := [.int (-1)]) (wr := [(mki, .inl (cI, 8, .inl (fun _ => 0))), (mpa, .inl (cI, 8, .inl (fun _ => 0))), (mta, .inl (cI, 8, .inl (fun _ => 0))), (mla, .inl (cI, 40, .inl (fun _ => 0))), (msl, .inl (cI, 40, .inl (fun _ => 0))), (mco, .inl (cI, 3, .inl (zL3 5 10 50))), (mso, .inl (cI, 8, .inl (fun _ => 0))), (msi, .inl (cI, 8, .inl (fun _ => 0))), (msh, .inl (cI, 8, .inl (fun _ => 0))), (mce, .inl (cJ, 1280, .inr (.inl (fun _ => 0)))), (mca, .inl (cJ, 160, .inr (.inl (fun _ => 0)))), (mwo, .inl (cI, 64, .inl fw_)), (mnu, .inl (cI, 10, .inl fn_)), (mte, .inl (cI, 3, .inl (fun _ => 0))), (mwa, .inl (cI, 130, .inl (fun _ => 0))), (mke, .inl (cI, 130, .inl (fun _ => 0))), (mma, .inl (cI, 3, .inl (fun _ => 0))), (mth, .inl (cI, 3, .inl (fun _ => 0))), (mtr, .inl (cI, 20, .inl (fun _ => 0)))]) ⟨hx, hb, hml, hown, hts⟩ (c_M_set l D cI cJ cZ cP cS m0 mrf mki mpa mta mla msl mco mhe mso msi msh mce mca mwo mnu mte mwa mke mma mth mtr (a_3) (a_6) (y_64)  H.size) (cwV 3 hts gq_24 rfl rfl rfl (by decide +kernel) ⟨Nat.le_of_ble_eq_true rfl, Nat.le_of_ble_eq_true rfl⟩) hK hN (hZ.kept hS) hP hD hS hA [0, 1, 8] [2, 3, 4, 5, 6, 7, 9, 10, 11, 12, 13, 14, 15, 16, 17, 18, 19, 20, 21] rfl rfl (by decide) (by decide) (by decide) (va_recv hK hP (ci := 8) (q0 := 0) rfl rfl) rfl hl.1 rfl (Nat.le_of_ble_eq_true rfl) dL_law_308 ⟨Nat.le_of_ble_eq_true rfl, Nat.le_of_ble_eq_true rfl⟩ (fun r_65 u_66 H locs hr_65 hP hD hS => ?_)
    replace hP : va_P D vwCl [(mki, .inl (cI, 8, .inl (fun _ => 0))), (mpa, .inl (cI, 8, .inl (fun _ => 0))), (mta, .inl (cI, 8, .inl (fun _ => 0))), (mla, .inl (cI, 40, .inl (fun _ => 0))), (msl, .inl (cI, 40, .inl (fun _ => 0))), (mco, .inl (cI, 3, .inl (zL3 5 10 50))), (mso, .inl (cI, 8, .inl (fun _ => 0))), (msi, .inl (cI, 8, .inl (fun _ => 0))), (msh, .inl (cI, 8, .inl (fun _ => 0))), (mce, .inl (cJ, 1280, .inr (.inl (fun _ => 0)))), (mca, .inl (cJ, 160, .inr (.inl (fun _ => 0)))), (mwo, .inl (cI, 64, .inl fw_)), (mnu, .inl (cI, 10, .inl fn_)), (mte, .inl (cI, 3, .inl (fun _ => 0))), (mwa, .inl (cI, 130, .inl (fun _ => 0))), (mke, .inl (cI, 130, .inl (fun _ => 0))), (mma, .inl (cI, 3, .inl (fun _ => 0))), (mth, .inl (cI, 3, .inl (fun _ => 0))), (mtr, .inl (cI, 20, .inl (fun _ => 0)))] H := hP
    replace hD : va_D _ [(mki, .inl (cI, 8, .inl (fun _ => 0))), (mpa, .inl (cI, 8, .inl (fun _ => 0))), (mta, .inl (cI, 8, .inl (fun _ => 0))), (mla, .inl (cI, 40, .inl (fun _ => 0))), (msl, .inl (cI, 40, .inl (fun _ => 0))), (mco, .inl (cI, 3, .inl (zL3 5 10 50))), (mso, .inl (cI, 8, .inl (fun _ => 0))), (msi, .inl (cI, 8, .inl (fun _ => 0))), (msh, .inl (cI, 8, .inl (fun _ => 0))), (mce, .inl (cJ, 1280, .inr (.inl (fun _ => 0)))), (mca, .inl (cJ, 160, .inr (.inl (fun _ => 0)))), (mwo, .inl (cI, 64, .inl fw_)), (mnu, .inl (cI, 10, .inl fn_)), (mte, .inl (cI, 3, .inl (fun _ => 0))), (mwa, .inl (cI, 130, .inl (fun _ => 0))), (mke, .inl (cI, 130, .inl (fun _ => 0))), (mma, .inl (cI, 3, .inl (fun _ => 0))), (mth, .inl (cI, 3, .inl (fun _ => 0))), (mtr, .inl (cI, 20, .inl (fun _ => 0)))] := hD
    rcases hr_65 with ⟨rfl, g_67⟩ | ⟨rfl, g_68, g_69⟩ | ⟨rfl, g_70, g_71⟩
    · exfalso; omega
    · refine lv_icmp_eq (tgt := 1371) hx hb dL_law_311 (by decide) (fun c_72 => ?_) (fun c_72 => ?_)
      · refine lv_iinc (v := 6) (lv' := [(3, .int 6), (2, .ref m0), (1, .ref x0), (0, .ref b)]) hx hb dL_law_1371 hl (k := 0) rfl (by decide) (by decide) rfl (fun ls hl => ?_)
        refine lv_goto (tgt := 18) hx hb dL_law_1374 (by decide) ?_
        refine lv_iload_n hx hb dL_law_18 rfl (lv_at hl 0 rfl) ?_
        refine lv_aload_n hx hb dL_law_19 rfl (lv_at hl 3 rfl) ?_
        refine va_slen hx hb hX hbl hbA hS dL_law_20 ?_
        refine lv_topi (fun y_73 ey_73 => ?_)
        obtain rfl : y_73 = 6 := ey_73.trans (by decide)
        refine lv_bipush (v := 6) hx hb dL_law_21 (by decide) ?_
        refine lv_isub hx hb dL_law_23 ?_
        refine lv_topi (fun y_74 ey_74 => ?_)
        obtain rfl : y_74 = 0 := ey_74.trans (by decide)
        refine lv_icmp_gt (tgt := 1377) hx hb dL_law_24 (by decide) (fun c_75 => ?_) (fun c_75 => ?_)
        · refine lv_iconst (v := 1) hx hb dL_law_1377 (by decide) ?_
          refine va_forget (fun q hq => hS.2.2 q hq) ?_
          refine W.widen (k := 600000) (n := 7302250) (Nat.le_of_ble_eq_true rfl) (Nat.le_of_ble_eq_true rfl) ?_
          exact lw_ret hx hb hr hlocks dL_law_1378
        · exact absurd c_75 (by decide)
      · exact absurd c_72 (by decide)
    · exfalso; omega
  · refine lv_aload_n hx hb dL_law_277 rfl (lv_at hl 1 rfl) ?_
    refine lv_aload_n hx hb dL_law_278 rfl (lv_at hl 3 rfl) ?_
    refine lv_iload_n hx hb dL_law_279 rfl (lv_at hl 0 rfl) ?_
    refine lv_iconst (v := 1) hx hb dL_law_280 (by decide) ?_
    refine lv_iadd hx hb dL_law_281 ?_
    refine lv_topi (fun y_76 ey_76 => ?_)
    obtain rfl : y_76 = 1 := ey_76.trans (by decide)
    refine va_sld hx hb hX hbl hbA hS (zf_in (by decide) (by decide)) dL_law_282 ?_
    refine lv_topi (fun y_77 ey_77 => ?_)
    obtain rfl : a_3 = y_77 := ea_3.trans ey_77.symm
    refine lv_aload_n hx hb dL_law_283 rfl (lv_at hl 3 rfl) ?_
    refine lv_iload_n hx hb dL_law_284 rfl (lv_at hl 0 rfl) ?_
    refine lv_iconst (v := 2) hx hb dL_law_285 (by decide) ?_
    refine lv_iadd hx hb dL_law_286 ?_
    refine lv_topi (fun y_78 ey_78 => ?_)
    obtain rfl : y_78 = 2 := ey_78.trans (by decide)
    refine va_sld hx hb hX hbl hbA hS (zf_in (by decide) (by decide)) dL_law_287 ?_
    refine lv_topi (fun y_79 ey_79 => ?_)
    obtain rfl : a_6 = y_79 := ea_6.trans ey_79.symm
    refine lv_aload_n hx hb dL_law_288 rfl (lv_at hl 3 rfl) ?_
    refine lv_iload_n hx hb dL_law_289 rfl (lv_at hl 0 rfl) ?_
    refine lv_iconst (v := 3) hx hb dL_law_290 (by decide) ?_
    refine lv_iadd hx hb dL_law_291 ?_
    refine lv_topi (fun y_80 ey_80 => ?_)
    obtain rfl : y_80 = 3 := ey_80.trans (by decide)
    refine va_sld hx hb hX hbl hbA hS (zf_in (by decide) (by decide)) dL_law_292 ?_
    refine lv_topi (fun y_81 ey_81 => ?_)
    obtain rfl : a_9 = y_81 := ea_9.trans ey_81.symm
    refine lv_i2l hx hb dL_law_293 rfl ?_
    refine lv_topl (fun y_82 ey_82 => ?_)
    refine lv_bipush (v := 32) hx hb dL_law_294 (by decide) ?_
    refine lv_lshl hx hb dL_law_296 rfl ?_
    refine lv_topl (fun y_83 ey_83 => ?_)
    refine lv_aload_n hx hb dL_law_297 rfl (lv_at hl 3 rfl) ?_
    refine lv_iload_n hx hb dL_law_298 rfl (lv_at hl 0 rfl) ?_
    refine lv_iconst (v := 4) hx hb dL_law_299 (by decide) ?_
    refine lv_iadd hx hb dL_law_300 ?_
    refine lv_topi (fun y_84 ey_84 => ?_)
    obtain rfl : y_84 = 4 := ey_84.trans (by decide)
    refine va_sld hx hb hX hbl hbA hS (zf_in (by decide) (by decide)) dL_law_301 ?_
    refine lv_topi (fun y_85 ey_85 => ?_)
    obtain rfl : a_14 = y_85 := ea_14.trans ey_85.symm
    refine lv_i2l hx hb dL_law_302 rfl ?_
    refine lv_topl (fun y_86 ey_86 => ?_)
    refine lv_ldc2 (own := RL) (v := 4294967295) hx hb hown (hts (Cond.constantLong RL 18 (4294967295)) zg_248.1) dL_law_303 ?_
    refine lv_topl (fun y_87 ey_87 => ?_)
    refine lv_land hx hb dL_law_306 ?_
    refine lv_topl (fun y_88 ey_88 => ?_)
    refine lv_lor hx hb dL_law_307 ?_
    refine lv_topl (fun y_89 ey_89 => ?_)
    skip
    refine zw_V (As := [.int a_3, .int a_6, .long y_89]) (rest := [.int (-3)]) (wr := [(mki, .inl (cI, 8, .inl (fun _ => 0))), (mpa, .inl (cI, 8, .inl (fun _ => 0))), (mta, .inl (cI, 8, .inl (fun _ => 0))), (mla, .inl (cI, 40, .inl (fun _ => 0))), (msl, .inl (cI, 40, .inl (fun _ => 0))), (mco, .inl (cI, 3, .inl (zL3 5 10 50))), (mso, .inl (cI, 8, .inl (fun _ => 0))), (msi, .inl (cI, 8, .inl (fun _ => 0))), (msh, .inl (cI, 8, .inl (fun _ => 0))), (mce, .inl (cJ, 1280, .inr (.inl (fun _ => 0)))), (mca, .inl (cJ, 160, .inr (.inl (fun _ => 0)))), (mwo, .inl (cI, 64, .inl fw_)), (mnu, .inl (cI, 10, .inl fn_)), (mte, .inl (cI, 3, .inl (fun _ => 0))), (mwa, .inl (cI, 130, .inl (fun _ => 0))), (mke, .inl (cI, 130, .inl (fun _ => 0))), (mma, .inl (cI, 3, .inl (fun _ => 0))), (mth, .inl (cI, 3, .inl (fun _ => 0))), (mtr, .inl (cI, 20, .inl (fun _ => 0)))]) ⟨hx, hb, hml, hown, hts⟩ (c_M_set l D cI cJ cZ cP cS m0 mrf mki mpa mta mla msl mco mhe mso msi msh mce mca mwo mnu mte mwa mke mma mth mtr (a_3) (a_6) (y_89)  H.size) (cwV 3 hts gq_24 rfl rfl rfl (by decide +kernel) ⟨Nat.le_of_ble_eq_true rfl, Nat.le_of_ble_eq_true rfl⟩) hK hN (hZ.kept hS) hP hD hS hA [0, 1, 8] [2, 3, 4, 5, 6, 7, 9, 10, 11, 12, 13, 14, 15, 16, 17, 18, 19, 20, 21] rfl rfl (by decide) (by decide) (by decide) (va_recv hK hP (ci := 8) (q0 := 0) rfl rfl) rfl hl.1 rfl (Nat.le_of_ble_eq_true rfl) dL_law_308 ⟨Nat.le_of_ble_eq_true rfl, Nat.le_of_ble_eq_true rfl⟩ (fun r_90 u_91 H locs hr_90 hP hD hS => ?_)
    replace hP : va_P D vwCl [(mki, .inl (cI, 8, .inl (fun _ => 0))), (mpa, .inl (cI, 8, .inl (fun _ => 0))), (mta, .inl (cI, 8, .inl (fun _ => 0))), (mla, .inl (cI, 40, .inl (fun _ => 0))), (msl, .inl (cI, 40, .inl (fun _ => 0))), (mco, .inl (cI, 3, .inl (zL3 5 10 50))), (mso, .inl (cI, 8, .inl (fun _ => 0))), (msi, .inl (cI, 8, .inl (fun _ => 0))), (msh, .inl (cI, 8, .inl (fun _ => 0))), (mce, .inl (cJ, 1280, .inr (.inl (fun _ => 0)))), (mca, .inl (cJ, 160, .inr (.inl (fun _ => 0)))), (mwo, .inl (cI, 64, .inl fw_)), (mnu, .inl (cI, 10, .inl fn_)), (mte, .inl (cI, 3, .inl (fun _ => 0))), (mwa, .inl (cI, 130, .inl (fun _ => 0))), (mke, .inl (cI, 130, .inl (fun _ => 0))), (mma, .inl (cI, 3, .inl (fun _ => 0))), (mth, .inl (cI, 3, .inl (fun _ => 0))), (mtr, .inl (cI, 20, .inl (fun _ => 0)))] H := hP
    replace hD : va_D _ [(mki, .inl (cI, 8, .inl (fun _ => 0))), (mpa, .inl (cI, 8, .inl (fun _ => 0))), (mta, .inl (cI, 8, .inl (fun _ => 0))), (mla, .inl (cI, 40, .inl (fun _ => 0))), (msl, .inl (cI, 40, .inl (fun _ => 0))), (mco, .inl (cI, 3, .inl (zL3 5 10 50))), (mso, .inl (cI, 8, .inl (fun _ => 0))), (msi, .inl (cI, 8, .inl (fun _ => 0))), (msh, .inl (cI, 8, .inl (fun _ => 0))), (mce, .inl (cJ, 1280, .inr (.inl (fun _ => 0)))), (mca, .inl (cJ, 160, .inr (.inl (fun _ => 0)))), (mwo, .inl (cI, 64, .inl fw_)), (mnu, .inl (cI, 10, .inl fn_)), (mte, .inl (cI, 3, .inl (fun _ => 0))), (mwa, .inl (cI, 130, .inl (fun _ => 0))), (mke, .inl (cI, 130, .inl (fun _ => 0))), (mma, .inl (cI, 3, .inl (fun _ => 0))), (mth, .inl (cI, 3, .inl (fun _ => 0))), (mtr, .inl (cI, 20, .inl (fun _ => 0)))] := hD
    rcases hr_90 with ⟨rfl, g_92⟩ | ⟨rfl, g_93, g_94⟩ | ⟨rfl, g_95, g_96⟩
    · exfalso; omega
    · exfalso; omega
    · refine lv_icmp_eq (tgt := 1371) hx hb dL_law_311 (by decide) (fun c_97 => ?_) (fun c_97 => ?_)
      · refine lv_iinc (v := 6) (lv' := [(3, .int 6), (2, .ref m0), (1, .ref x0), (0, .ref b)]) hx hb dL_law_1371 hl (k := 0) rfl (by decide) (by decide) rfl (fun ls hl => ?_)
        refine lv_goto (tgt := 18) hx hb dL_law_1374 (by decide) ?_
        refine lv_iload_n hx hb dL_law_18 rfl (lv_at hl 0 rfl) ?_
        refine lv_aload_n hx hb dL_law_19 rfl (lv_at hl 3 rfl) ?_
        refine va_slen hx hb hX hbl hbA hS dL_law_20 ?_
        refine lv_topi (fun y_98 ey_98 => ?_)
        obtain rfl : y_98 = 6 := ey_98.trans (by decide)
        refine lv_bipush (v := 6) hx hb dL_law_21 (by decide) ?_
        refine lv_isub hx hb dL_law_23 ?_
        refine lv_topi (fun y_99 ey_99 => ?_)
        obtain rfl : y_99 = 0 := ey_99.trans (by decide)
        refine lv_icmp_gt (tgt := 1377) hx hb dL_law_24 (by decide) (fun c_100 => ?_) (fun c_100 => ?_)
        · refine lv_iconst (v := 1) hx hb dL_law_1377 (by decide) ?_
          refine va_forget (fun q hq => hS.2.2 q hq) ?_
          refine W.widen (k := 600000) (n := 7302250) (Nat.le_of_ble_eq_true rfl) (Nat.le_of_ble_eq_true rfl) ?_
          exact lw_ret hx hb hr hlocks dL_law_1378
        · exact absurd c_100 (by decide)
      · exact absurd c_97 (by decide)
set_option maxHeartbeats 8000000 in
set_option maxRecDepth 100000 in
theorem law_case_2 {p : Program} {l : Launch} {e : Env} {s : State} {m : MethodId} {below : List Frame} {meth : Method} {c : Code} {D : va_G} {cI cJ cZ cP cS : ClassId} {b : Nat} {xs_ : Nat → Int32} (x0 xs j0 k0 w0 rd mv xr z0 jp jc zl zs kz kp kc kzl kzs wk wl wc wp ri rl mb m0 mrf mki mpa mta mla msl mco mhe mso msi msh mce mca mwo mnu mte mwa mke mma mth mtr : Nat) (sh el : Nat → Nat) (fw_ fn_ : Nat → Int32) (C0 : lw_At p s m meth c b 6 xs_) (hK : va_K D vwCl (zKT cI cJ cZ cP cS) s) (hN : zN s) (hZ : zSt (fun q : Nat => s.heap.size ≤ q) s s.heap) (H : Heap) (locs : List Loc) (hP : va_P D vwCl (zLW cI cJ cZ cP cS x0 xs j0 k0 w0 rd mv xr z0 jp jc zl zs kz kp kc kzl kzs wk wl wc wp ri rl mb m0 mrf mki mpa mta mla msl mco mhe mso msi msh mce mca mwo mnu mte mwa mke mma mth mtr sh el fw_ fn_) H) (hD : va_D (fun q : Nat => s.heap.size ≤ q) (zLW cI cJ cZ cP cS x0 xs j0 k0 w0 rd mv xr z0 jp jc zl zs kz kp kc kzl kzs wk wl wc wp ri rl mb m0 mrf mki mpa mta mla msl mco mhe mso msi msh mce mca mwo mnu mte mwa mke mma mth mtr sh el fw_ fn_)) (hS : va_S (fun q : Nat => s.heap.size ≤ q) s.heap H locs) (ls : Array Slot) (hl : lv_has ls 4 [(3, .int 0), (2, .ref m0), (1, .ref x0), (0, .ref b)]) : W p l e room_1 s m #[Value.ref b] below meth c H locs 100 10000 (lw_Z below #[Value.ref b] s) (F0 m 316 ls []) := by
  obtain ⟨hx, hb, hr, hml, hown0, hts, hX, hbl, hlocks, hgv⟩ := id C0
  have hown : s.vm.findClass RL = some m.cls := hown0
  have hA : ∀ q : Nat, s.heap.size ≤ q → (fun q : Nat => s.heap.size ≤ q) q := fun _ h => h
  have hbA : ¬ (fun q : Nat => s.heap.size ≤ q) b := Nat.not_le.mpr hbl
  replace hP : va_P D vwCl ((x0, .inr (7, [.ref xs, .ref j0, .ref k0, .ref w0, .ref rd, .ref mv, .ref xr, .int 0, .int (-1)])) :: (xs, .inl (cS, 8, .inr (.inr (.inr (.inr (zS sh)))))) :: (j0, .inr (0, [.ref z0, .ref jp, .ref jc, .int 0, .int 0, .int 0, .int 60, .int 0, .int 1])) :: (z0, .inr (6, [.ref zl, .ref zs, .int 20, .int 0, .int 3])) :: (zl, .inl (cZ, 40, .inl (fun _ => 0))) :: (zs, .inl (cI, 40, .inl (fun _ => 0))) :: (jp, .inl (cP, 8, .inr (.inr (.inr (.inr (fun _ => none)))))) :: (jc, .inl (cI, 3, .inl (zL3 5 10 50))) :: (k0, .inr (0, [.ref kz, .ref kp, .ref kc, .int 0, .int 0, .int 0, .int 60, .int 0, .int 1])) :: (kz, .inr (6, [.ref kzl, .ref kzs, .int 20, .int 0, .int 3])) :: (kzl, .inl (cZ, 40, .inl (fun _ => 0))) :: (kzs, .inl (cI, 40, .inl (fun _ => 0))) :: (kp, .inl (cP, 8, .inr (.inr (.inr (.inr (fun _ => none)))))) :: (kc, .inl (cI, 3, .inl (zL3 5 10 50))) :: (w0, .inr (5, [.ref wk, .ref wl, .ref wc, .ref wp, .int 0, .int 0, .int 0])) :: (wk, .inl (cI, 125, .inl (fun _ => 0))) :: (wl, .inl (cI, 125, .inl (fun _ => 0))) :: (wc, .inl (cI, 3, .inl (fun _ => 0))) :: (wp, .inl (cP, 8, .inr (.inr (.inr (.inr (fun _ => none)))))) :: (rd, .inr (3, [.ref ri, .ref rl, .int 0, .int 0, .int 0, .int (-1), .int 0, .int 0])) :: (ri, .inl (cI, 132, .inl (fun _ => 0))) :: (rl, .inl (cI, 160, .inl (fun _ => 0))) :: (mv, .inr (1, [.ref mb, .int 0, .int 0, .int 0, .int 0])) :: (mb, .inl (cI, 20, .inl (fun _ => 0))) :: (xr, .inl (cI, 8, .inl (fun _ => 0))) :: ((sh 0), .inr (4, [.ref (el 0), .int (-1), .int 0])) :: ((el 0), .inl (cJ, 160, .inr (.inl (fun _ => 0)))) :: ((sh 1), .inr (4, [.ref (el 1), .int (-1), .int 0])) :: ((el 1), .inl (cJ, 160, .inr (.inl (fun _ => 0)))) :: ((sh 2), .inr (4, [.ref (el 2), .int (-1), .int 0])) :: ((el 2), .inl (cJ, 160, .inr (.inl (fun _ => 0)))) :: ((sh 3), .inr (4, [.ref (el 3), .int (-1), .int 0])) :: ((el 3), .inl (cJ, 160, .inr (.inl (fun _ => 0)))) :: ((sh 4), .inr (4, [.ref (el 4), .int (-1), .int 0])) :: ((el 4), .inl (cJ, 160, .inr (.inl (fun _ => 0)))) :: ((sh 5), .inr (4, [.ref (el 5), .int (-1), .int 0])) :: ((el 5), .inl (cJ, 160, .inr (.inl (fun _ => 0)))) :: ((sh 6), .inr (4, [.ref (el 6), .int (-1), .int 0])) :: ((el 6), .inl (cJ, 160, .inr (.inl (fun _ => 0)))) :: ((sh 7), .inr (4, [.ref (el 7), .int (-1), .int 0])) :: ((el 7), .inl (cJ, 160, .inr (.inl (fun _ => 0)))) :: (m0, .inr (8, (.int 0 :: .int 20 :: .int 0 :: .int 0 :: .int 0 :: .int 60 :: .int 0 :: .int 3 :: .int 1 :: .int (-1) :: .ref mrf :: .ref mki :: .ref mpa :: .ref mta :: .ref mla :: .ref msl :: .ref mco :: .ref mhe :: .ref mso :: .ref msi :: .ref msh :: .ref mce :: .ref mca :: .ref mwo :: .ref mnu :: .ref mte :: .int 0 :: .int 0 :: .int 0 :: .int 0 :: .int 0 :: .ref mwa :: .ref mke :: .ref mma :: .ref mth :: .ref mtr :: .int 0 :: .int 0 :: []))) :: (mrf, .inl (cI, 8, .inl (fun _ => 0))) :: (mki, .inl (cI, 8, .inl (fun _ => 0))) :: (mpa, .inl (cI, 8, .inl (fun _ => 0))) :: (mta, .inl (cI, 8, .inl (fun _ => 0))) :: (mla, .inl (cI, 40, .inl (fun _ => 0))) :: (msl, .inl (cI, 40, .inl (fun _ => 0))) :: (mco, .inl (cI, 3, .inl (zL3 5 10 50))) :: (mhe, .inl (cI, 8, .inl (fun _ => 0))) :: (mso, .inl (cI, 8, .inl (fun _ => 0))) :: (msi, .inl (cI, 8, .inl (fun _ => 0))) :: (msh, .inl (cI, 8, .inl (fun _ => 0))) :: (mce, .inl (cJ, 1280, .inr (.inl (fun _ => 0)))) :: (mca, .inl (cJ, 160, .inr (.inl (fun _ => 0)))) :: (mwo, .inl (cI, 64, .inl fw_)) :: (mnu, .inl (cI, 10, .inl fn_)) :: (mte, .inl (cI, 3, .inl (fun _ => 0))) :: (mwa, .inl (cI, 130, .inl (fun _ => 0))) :: (mke, .inl (cI, 130, .inl (fun _ => 0))) :: (mma, .inl (cI, 3, .inl (fun _ => 0))) :: (mth, .inl (cI, 3, .inl (fun _ => 0))) :: (mtr, .inl (cI, 20, .inl (fun _ => 0))) :: []) H := hP
  replace hD : va_D _ ((x0, .inr (7, [.ref xs, .ref j0, .ref k0, .ref w0, .ref rd, .ref mv, .ref xr, .int 0, .int (-1)])) :: (xs, .inl (cS, 8, .inr (.inr (.inr (.inr (zS sh)))))) :: (j0, .inr (0, [.ref z0, .ref jp, .ref jc, .int 0, .int 0, .int 0, .int 60, .int 0, .int 1])) :: (z0, .inr (6, [.ref zl, .ref zs, .int 20, .int 0, .int 3])) :: (zl, .inl (cZ, 40, .inl (fun _ => 0))) :: (zs, .inl (cI, 40, .inl (fun _ => 0))) :: (jp, .inl (cP, 8, .inr (.inr (.inr (.inr (fun _ => none)))))) :: (jc, .inl (cI, 3, .inl (zL3 5 10 50))) :: (k0, .inr (0, [.ref kz, .ref kp, .ref kc, .int 0, .int 0, .int 0, .int 60, .int 0, .int 1])) :: (kz, .inr (6, [.ref kzl, .ref kzs, .int 20, .int 0, .int 3])) :: (kzl, .inl (cZ, 40, .inl (fun _ => 0))) :: (kzs, .inl (cI, 40, .inl (fun _ => 0))) :: (kp, .inl (cP, 8, .inr (.inr (.inr (.inr (fun _ => none)))))) :: (kc, .inl (cI, 3, .inl (zL3 5 10 50))) :: (w0, .inr (5, [.ref wk, .ref wl, .ref wc, .ref wp, .int 0, .int 0, .int 0])) :: (wk, .inl (cI, 125, .inl (fun _ => 0))) :: (wl, .inl (cI, 125, .inl (fun _ => 0))) :: (wc, .inl (cI, 3, .inl (fun _ => 0))) :: (wp, .inl (cP, 8, .inr (.inr (.inr (.inr (fun _ => none)))))) :: (rd, .inr (3, [.ref ri, .ref rl, .int 0, .int 0, .int 0, .int (-1), .int 0, .int 0])) :: (ri, .inl (cI, 132, .inl (fun _ => 0))) :: (rl, .inl (cI, 160, .inl (fun _ => 0))) :: (mv, .inr (1, [.ref mb, .int 0, .int 0, .int 0, .int 0])) :: (mb, .inl (cI, 20, .inl (fun _ => 0))) :: (xr, .inl (cI, 8, .inl (fun _ => 0))) :: ((sh 0), .inr (4, [.ref (el 0), .int (-1), .int 0])) :: ((el 0), .inl (cJ, 160, .inr (.inl (fun _ => 0)))) :: ((sh 1), .inr (4, [.ref (el 1), .int (-1), .int 0])) :: ((el 1), .inl (cJ, 160, .inr (.inl (fun _ => 0)))) :: ((sh 2), .inr (4, [.ref (el 2), .int (-1), .int 0])) :: ((el 2), .inl (cJ, 160, .inr (.inl (fun _ => 0)))) :: ((sh 3), .inr (4, [.ref (el 3), .int (-1), .int 0])) :: ((el 3), .inl (cJ, 160, .inr (.inl (fun _ => 0)))) :: ((sh 4), .inr (4, [.ref (el 4), .int (-1), .int 0])) :: ((el 4), .inl (cJ, 160, .inr (.inl (fun _ => 0)))) :: ((sh 5), .inr (4, [.ref (el 5), .int (-1), .int 0])) :: ((el 5), .inl (cJ, 160, .inr (.inl (fun _ => 0)))) :: ((sh 6), .inr (4, [.ref (el 6), .int (-1), .int 0])) :: ((el 6), .inl (cJ, 160, .inr (.inl (fun _ => 0)))) :: ((sh 7), .inr (4, [.ref (el 7), .int (-1), .int 0])) :: ((el 7), .inl (cJ, 160, .inr (.inl (fun _ => 0)))) :: (m0, .inr (8, (.int 0 :: .int 20 :: .int 0 :: .int 0 :: .int 0 :: .int 60 :: .int 0 :: .int 3 :: .int 1 :: .int (-1) :: .ref mrf :: .ref mki :: .ref mpa :: .ref mta :: .ref mla :: .ref msl :: .ref mco :: .ref mhe :: .ref mso :: .ref msi :: .ref msh :: .ref mce :: .ref mca :: .ref mwo :: .ref mnu :: .ref mte :: .int 0 :: .int 0 :: .int 0 :: .int 0 :: .int 0 :: .ref mwa :: .ref mke :: .ref mma :: .ref mth :: .ref mtr :: .int 0 :: .int 0 :: []))) :: (mrf, .inl (cI, 8, .inl (fun _ => 0))) :: (mki, .inl (cI, 8, .inl (fun _ => 0))) :: (mpa, .inl (cI, 8, .inl (fun _ => 0))) :: (mta, .inl (cI, 8, .inl (fun _ => 0))) :: (mla, .inl (cI, 40, .inl (fun _ => 0))) :: (msl, .inl (cI, 40, .inl (fun _ => 0))) :: (mco, .inl (cI, 3, .inl (zL3 5 10 50))) :: (mhe, .inl (cI, 8, .inl (fun _ => 0))) :: (mso, .inl (cI, 8, .inl (fun _ => 0))) :: (msi, .inl (cI, 8, .inl (fun _ => 0))) :: (msh, .inl (cI, 8, .inl (fun _ => 0))) :: (mce, .inl (cJ, 1280, .inr (.inl (fun _ => 0)))) :: (mca, .inl (cJ, 160, .inr (.inl (fun _ => 0)))) :: (mwo, .inl (cI, 64, .inl fw_)) :: (mnu, .inl (cI, 10, .inl fn_)) :: (mte, .inl (cI, 3, .inl (fun _ => 0))) :: (mwa, .inl (cI, 130, .inl (fun _ => 0))) :: (mke, .inl (cI, 130, .inl (fun _ => 0))) :: (mma, .inl (cI, 3, .inl (fun _ => 0))) :: (mth, .inl (cI, 3, .inl (fun _ => 0))) :: (mtr, .inl (cI, 20, .inl (fun _ => 0))) :: []) := hD
  refine lv_aload_n hx hb dL_law_316 rfl (lv_at hl 2 rfl) ?_
  refine lv_aload_n hx hb dL_law_317 rfl (lv_at hl 3 rfl) ?_
  refine lv_iload_n hx hb dL_law_318 rfl (lv_at hl 0 rfl) ?_
  refine lv_iconst (v := 1) hx hb dL_law_319 (by decide) ?_
  refine lv_iadd hx hb dL_law_320 ?_
  refine lv_topi (fun y_1 ey_1 => ?_)
  obtain rfl : y_1 = 1 := ey_1.trans (by decide)
  refine va_sld hx hb hX hbl hbA hS (zf_in (by decide) (by decide)) dL_law_321 ?_
  refine lv_topi (fun a_3 ea_3 => ?_)
  refine lv_aload_n hx hb dL_law_322 rfl (lv_at hl 3 rfl) ?_
  refine lv_iload_n hx hb dL_law_323 rfl (lv_at hl 0 rfl) ?_
  refine lv_iconst (v := 2) hx hb dL_law_324 (by decide) ?_
  refine lv_iadd hx hb dL_law_325 ?_
  refine lv_topi (fun y_4 ey_4 => ?_)
  obtain rfl : y_4 = 2 := ey_4.trans (by decide)
  refine va_sld hx hb hX hbl hbA hS (zf_in (by decide) (by decide)) dL_law_326 ?_
  refine lv_topi (fun a_6 ea_6 => ?_)
  refine lv_aload_n hx hb dL_law_327 rfl (lv_at hl 3 rfl) ?_
  refine lv_iload_n hx hb dL_law_328 rfl (lv_at hl 0 rfl) ?_
  refine lv_iconst (v := 3) hx hb dL_law_329 (by decide) ?_
  refine lv_iadd hx hb dL_law_330 ?_
  refine lv_topi (fun y_7 ey_7 => ?_)
  obtain rfl : y_7 = 3 := ey_7.trans (by decide)
  refine va_sld hx hb hX hbl hbA hS (zf_in (by decide) (by decide)) dL_law_331 ?_
  refine lv_topi (fun a_9 ea_9 => ?_)
  refine lv_aload_n hx hb dL_law_332 rfl (lv_at hl 3 rfl) ?_
  refine lv_iload_n hx hb dL_law_333 rfl (lv_at hl 0 rfl) ?_
  refine lv_iconst (v := 4) hx hb dL_law_334 (by decide) ?_
  refine lv_iadd hx hb dL_law_335 ?_
  refine lv_topi (fun y_10 ey_10 => ?_)
  obtain rfl : y_10 = 4 := ey_10.trans (by decide)
  refine va_sld hx hb hX hbl hbA hS (zf_in (by decide) (by decide)) dL_law_336 ?_
  refine lv_topi (fun a_12 ea_12 => ?_)
  refine lv_aload_n hx hb dL_law_337 rfl (lv_at hl 3 rfl) ?_
  refine lv_iload_n hx hb dL_law_338 rfl (lv_at hl 0 rfl) ?_
  refine lv_iconst (v := 5) hx hb dL_law_339 (by decide) ?_
  refine lv_iadd hx hb dL_law_340 ?_
  refine lv_topi (fun y_13 ey_13 => ?_)
  obtain rfl : y_13 = 5 := ey_13.trans (by decide)
  refine va_sld hx hb hX hbl hbA hS (zf_in (by decide) (by decide)) dL_law_341 ?_
  refine lv_topi (fun a_15 ea_15 => ?_)
  skip
  refine zw_V (As := [.int a_3, .int a_6, .int a_9, .int a_12, .int a_15]) (rest := []) (wr := ((m0, .inr (8, (.int 0 :: .int 20 :: .int 0 :: .int 0 :: .int 0 :: .int 60 :: .int 0 :: .int 3 :: .int 1 :: .int (-1) :: .ref mrf :: .ref mki :: .ref mpa :: .ref mta :: .ref mla :: .ref msl :: .ref mco :: .ref mhe :: .ref mso :: .ref msi :: .ref msh :: .ref mce :: .ref mca :: .ref mwo :: .ref mnu :: .ref mte :: .int 0 :: .int 0 :: .int 0 :: .int 0 :: .int 0 :: .ref mwa :: .ref mke :: .ref mma :: .ref mth :: .ref mtr :: .int 0 :: .int 0 :: []))) :: (mrf, .inl (cI, 8, .inl (fun _ => 0))) :: (mki, .inl (cI, 8, .inl (fun _ => 0))) :: (mpa, .inl (cI, 8, .inl (fun _ => 0))) :: (mta, .inl (cI, 8, .inl (fun _ => 0))) :: (mla, .inl (cI, 40, .inl (fun _ => 0))) :: (msl, .inl (cI, 40, .inl (fun _ => 0))) :: (mco, .inl (cI, 3, .inl (zL3 5 10 50))) :: (mhe, .inl (cI, 8, .inl (fun _ => 0))) :: (mso, .inl (cI, 8, .inl (fun _ => 0))) :: (msi, .inl (cI, 8, .inl (fun _ => 0))) :: (msh, .inl (cI, 8, .inl (fun _ => 0))) :: (mce, .inl (cJ, 1280, .inr (.inl (fun _ => 0)))) :: (mca, .inl (cJ, 160, .inr (.inl (fun _ => 0)))) :: (mwo, .inl (cI, 64, .inl fw_)) :: (mnu, .inl (cI, 10, .inl fn_)) :: (mte, .inl (cI, 3, .inl (fun _ => 0))) :: (mwa, .inl (cI, 130, .inl (fun _ => 0))) :: (mke, .inl (cI, 130, .inl (fun _ => 0))) :: (mma, .inl (cI, 3, .inl (fun _ => 0))) :: (mth, .inl (cI, 3, .inl (fun _ => 0))) :: (mtr, .inl (cI, 20, .inl (fun _ => 0))) :: [])) ⟨hx, hb, hml, hown, hts⟩ (c_copy l D cI cJ cZ cP cS x0 xs j0 k0 w0 rd mv xr sh el (a_3) (a_6) (a_9) (a_12) (a_15)  H.size) (cwV 5 hts gq_25 rfl rfl rfl (by decide +kernel) ⟨Nat.le_of_ble_eq_true rfl, Nat.le_of_ble_eq_true rfl⟩) hK hN (hZ.kept hS) hP hD hS hA [0, 24, 1, 25, 27, 29, 31, 33, 35, 37, 39] [41, 42, 43, 44, 45, 46, 47, 48, 49, 50, 51, 52, 53, 54, 55, 56, 57, 58, 59, 60, 61, 62] rfl rfl (by decide) (by decide) (by decide) (va_recv hK hP (ci := 7) (q0 := 0) rfl rfl) rfl hl.1 rfl (Nat.le_of_ble_eq_true rfl) dL_law_342 ⟨Nat.le_of_ble_eq_true rfl, Nat.le_of_ble_eq_true rfl⟩ (fun r_16 u_17 H locs hr_16 hP hD hS => ?_)
  replace hP : va_P D vwCl ((m0, .inr (8, (.int 0 :: .int 20 :: .int 0 :: .int 0 :: .int 0 :: .int 60 :: .int 0 :: .int 3 :: .int 1 :: .int (-1) :: .ref mrf :: .ref mki :: .ref mpa :: .ref mta :: .ref mla :: .ref msl :: .ref mco :: .ref mhe :: .ref mso :: .ref msi :: .ref msh :: .ref mce :: .ref mca :: .ref mwo :: .ref mnu :: .ref mte :: .int 0 :: .int 0 :: .int 0 :: .int 0 :: .int 0 :: .ref mwa :: .ref mke :: .ref mma :: .ref mth :: .ref mtr :: .int 0 :: .int 0 :: []))) :: (mrf, .inl (cI, 8, .inl (fun _ => 0))) :: (mki, .inl (cI, 8, .inl (fun _ => 0))) :: (mpa, .inl (cI, 8, .inl (fun _ => 0))) :: (mta, .inl (cI, 8, .inl (fun _ => 0))) :: (mla, .inl (cI, 40, .inl (fun _ => 0))) :: (msl, .inl (cI, 40, .inl (fun _ => 0))) :: (mco, .inl (cI, 3, .inl (zL3 5 10 50))) :: (mhe, .inl (cI, 8, .inl (fun _ => 0))) :: (mso, .inl (cI, 8, .inl (fun _ => 0))) :: (msi, .inl (cI, 8, .inl (fun _ => 0))) :: (msh, .inl (cI, 8, .inl (fun _ => 0))) :: (mce, .inl (cJ, 1280, .inr (.inl (fun _ => 0)))) :: (mca, .inl (cJ, 160, .inr (.inl (fun _ => 0)))) :: (mwo, .inl (cI, 64, .inl fw_)) :: (mnu, .inl (cI, 10, .inl fn_)) :: (mte, .inl (cI, 3, .inl (fun _ => 0))) :: (mwa, .inl (cI, 130, .inl (fun _ => 0))) :: (mke, .inl (cI, 130, .inl (fun _ => 0))) :: (mma, .inl (cI, 3, .inl (fun _ => 0))) :: (mth, .inl (cI, 3, .inl (fun _ => 0))) :: (mtr, .inl (cI, 20, .inl (fun _ => 0))) :: []) H := hP
  replace hD : va_D _ ((m0, .inr (8, (.int 0 :: .int 20 :: .int 0 :: .int 0 :: .int 0 :: .int 60 :: .int 0 :: .int 3 :: .int 1 :: .int (-1) :: .ref mrf :: .ref mki :: .ref mpa :: .ref mta :: .ref mla :: .ref msl :: .ref mco :: .ref mhe :: .ref mso :: .ref msi :: .ref msh :: .ref mce :: .ref mca :: .ref mwo :: .ref mnu :: .ref mte :: .int 0 :: .int 0 :: .int 0 :: .int 0 :: .int 0 :: .ref mwa :: .ref mke :: .ref mma :: .ref mth :: .ref mtr :: .int 0 :: .int 0 :: []))) :: (mrf, .inl (cI, 8, .inl (fun _ => 0))) :: (mki, .inl (cI, 8, .inl (fun _ => 0))) :: (mpa, .inl (cI, 8, .inl (fun _ => 0))) :: (mta, .inl (cI, 8, .inl (fun _ => 0))) :: (mla, .inl (cI, 40, .inl (fun _ => 0))) :: (msl, .inl (cI, 40, .inl (fun _ => 0))) :: (mco, .inl (cI, 3, .inl (zL3 5 10 50))) :: (mhe, .inl (cI, 8, .inl (fun _ => 0))) :: (mso, .inl (cI, 8, .inl (fun _ => 0))) :: (msi, .inl (cI, 8, .inl (fun _ => 0))) :: (msh, .inl (cI, 8, .inl (fun _ => 0))) :: (mce, .inl (cJ, 1280, .inr (.inl (fun _ => 0)))) :: (mca, .inl (cJ, 160, .inr (.inl (fun _ => 0)))) :: (mwo, .inl (cI, 64, .inl fw_)) :: (mnu, .inl (cI, 10, .inl fn_)) :: (mte, .inl (cI, 3, .inl (fun _ => 0))) :: (mwa, .inl (cI, 130, .inl (fun _ => 0))) :: (mke, .inl (cI, 130, .inl (fun _ => 0))) :: (mma, .inl (cI, 3, .inl (fun _ => 0))) :: (mth, .inl (cI, 3, .inl (fun _ => 0))) :: (mtr, .inl (cI, 20, .inl (fun _ => 0))) :: []) := hD
  rcases hr_16 with ⟨rfl, g_18, g_19⟩ | ⟨rfl, g_20, g_21, g_22⟩ | ⟨rfl, g_23, g_24, g_25⟩ | ⟨rfl, g_26, g_27, g_28⟩ | ⟨rfl, g_29, g_30, g_31, g_32⟩ | ⟨rfl, g_33, g_34, g_35, g_36⟩ | ⟨rfl, g_37, g_38, g_39⟩ | ⟨rfl, g_40, g_41, g_42, g_43⟩ | ⟨rfl, g_44, g_45, g_46, g_47⟩
  · refine lv_aload_n hx hb dL_law_345 rfl (lv_at hl 1 rfl) ?_
    refine lv_aload_n hx hb dL_law_346 rfl (lv_at hl 3 rfl) ?_
    refine lv_iload_n hx hb dL_law_347 rfl (lv_at hl 0 rfl) ?_
    refine lv_iconst (v := 1) hx hb dL_law_348 (by decide) ?_
    refine lv_iadd hx hb dL_law_349 ?_
    refine lv_topi (fun y_48 ey_48 => ?_)
    obtain rfl : y_48 = 1 := ey_48.trans (by decide)
    refine va_sld hx hb hX hbl hbA hS (zf_in (by decide) (by decide)) dL_law_350 ?_
    refine lv_topi (fun y_49 ey_49 => ?_)
    obtain rfl : a_3 = y_49 := ea_3.trans ey_49.symm
    refine lv_aload_n hx hb dL_law_351 rfl (lv_at hl 3 rfl) ?_
    refine lv_iload_n hx hb dL_law_352 rfl (lv_at hl 0 rfl) ?_
    refine lv_iconst (v := 2) hx hb dL_law_353 (by decide) ?_
    refine lv_iadd hx hb dL_law_354 ?_
    refine lv_topi (fun y_50 ey_50 => ?_)
    obtain rfl : y_50 = 2 := ey_50.trans (by decide)
    refine va_sld hx hb hX hbl hbA hS (zf_in (by decide) (by decide)) dL_law_355 ?_
    refine lv_topi (fun y_51 ey_51 => ?_)
    obtain rfl : a_6 = y_51 := ea_6.trans ey_51.symm
    refine lv_aload_n hx hb dL_law_356 rfl (lv_at hl 3 rfl) ?_
    refine lv_iload_n hx hb dL_law_357 rfl (lv_at hl 0 rfl) ?_
    refine lv_iconst (v := 3) hx hb dL_law_358 (by decide) ?_
    refine lv_iadd hx hb dL_law_359 ?_
    refine lv_topi (fun y_52 ey_52 => ?_)
    obtain rfl : y_52 = 3 := ey_52.trans (by decide)
    refine va_sld hx hb hX hbl hbA hS (zf_in (by decide) (by decide)) dL_law_360 ?_
    refine lv_topi (fun y_53 ey_53 => ?_)
    obtain rfl : a_9 = y_53 := ea_9.trans ey_53.symm
    refine lv_aload_n hx hb dL_law_361 rfl (lv_at hl 3 rfl) ?_
    refine lv_iload_n hx hb dL_law_362 rfl (lv_at hl 0 rfl) ?_
    refine lv_iconst (v := 4) hx hb dL_law_363 (by decide) ?_
    refine lv_iadd hx hb dL_law_364 ?_
    refine lv_topi (fun y_54 ey_54 => ?_)
    obtain rfl : y_54 = 4 := ey_54.trans (by decide)
    refine va_sld hx hb hX hbl hbA hS (zf_in (by decide) (by decide)) dL_law_365 ?_
    refine lv_topi (fun y_55 ey_55 => ?_)
    obtain rfl : a_12 = y_55 := ea_12.trans ey_55.symm
    refine lv_aload_n hx hb dL_law_366 rfl (lv_at hl 3 rfl) ?_
    refine lv_iload_n hx hb dL_law_367 rfl (lv_at hl 0 rfl) ?_
    refine lv_iconst (v := 5) hx hb dL_law_368 (by decide) ?_
    refine lv_iadd hx hb dL_law_369 ?_
    refine lv_topi (fun y_56 ey_56 => ?_)
    obtain rfl : y_56 = 5 := ey_56.trans (by decide)
    refine va_sld hx hb hX hbl hbA hS (zf_in (by decide) (by decide)) dL_law_370 ?_
    refine lv_topi (fun y_57 ey_57 => ?_)
    obtain rfl : a_15 = y_57 := ea_15.trans ey_57.symm
    skip
    refine zw_V (As := [.int a_3, .int a_6, .int a_9, .int a_12, .int a_15]) (rest := [.int (-1)]) (wr := [(mki, .inl (cI, 8, .inl (fun _ => 0))), (mpa, .inl (cI, 8, .inl (fun _ => 0))), (mta, .inl (cI, 8, .inl (fun _ => 0))), (mla, .inl (cI, 40, .inl (fun _ => 0))), (msl, .inl (cI, 40, .inl (fun _ => 0))), (mco, .inl (cI, 3, .inl (zL3 5 10 50))), (mso, .inl (cI, 8, .inl (fun _ => 0))), (msi, .inl (cI, 8, .inl (fun _ => 0))), (msh, .inl (cI, 8, .inl (fun _ => 0))), (mce, .inl (cJ, 1280, .inr (.inl (fun _ => 0)))), (mca, .inl (cJ, 160, .inr (.inl (fun _ => 0)))), (mwo, .inl (cI, 64, .inl fw_)), (mnu, .inl (cI, 10, .inl fn_)), (mte, .inl (cI, 3, .inl (fun _ => 0))), (mwa, .inl (cI, 130, .inl (fun _ => 0))), (mke, .inl (cI, 130, .inl (fun _ => 0))), (mma, .inl (cI, 3, .inl (fun _ => 0))), (mth, .inl (cI, 3, .inl (fun _ => 0))), (mtr, .inl (cI, 20, .inl (fun _ => 0)))]) ⟨hx, hb, hml, hown, hts⟩ (c_M_copy l D cI cJ cZ cP cS m0 mrf mki mpa mta mla msl mco mhe mso msi msh mce mca mwo mnu mte mwa mke mma mth mtr (a_3) (a_6) (a_9) (a_12) (a_15)  H.size) (cwV 5 hts gq_29 rfl rfl rfl (by decide +kernel) ⟨Nat.le_of_ble_eq_true rfl, Nat.le_of_ble_eq_true rfl⟩) hK hN (hZ.kept hS) hP hD hS hA [0, 1, 8] [2, 3, 4, 5, 6, 7, 9, 10, 11, 12, 13, 14, 15, 16, 17, 18, 19, 20, 21] rfl rfl (by decide) (by decide) (by decide) (va_recv hK hP (ci := 8) (q0 := 0) rfl rfl) rfl hl.1 rfl (Nat.le_of_ble_eq_true rfl) dL_law_371 ⟨Nat.le_of_ble_eq_true rfl, Nat.le_of_ble_eq_true rfl⟩ (fun r_58 u_59 H locs hr_58 hP hD hS => ?_)
    replace hP : va_P D vwCl [(mki, .inl (cI, 8, .inl (fun _ => 0))), (mpa, .inl (cI, 8, .inl (fun _ => 0))), (mta, .inl (cI, 8, .inl (fun _ => 0))), (mla, .inl (cI, 40, .inl (fun _ => 0))), (msl, .inl (cI, 40, .inl (fun _ => 0))), (mco, .inl (cI, 3, .inl (zL3 5 10 50))), (mso, .inl (cI, 8, .inl (fun _ => 0))), (msi, .inl (cI, 8, .inl (fun _ => 0))), (msh, .inl (cI, 8, .inl (fun _ => 0))), (mce, .inl (cJ, 1280, .inr (.inl (fun _ => 0)))), (mca, .inl (cJ, 160, .inr (.inl (fun _ => 0)))), (mwo, .inl (cI, 64, .inl fw_)), (mnu, .inl (cI, 10, .inl fn_)), (mte, .inl (cI, 3, .inl (fun _ => 0))), (mwa, .inl (cI, 130, .inl (fun _ => 0))), (mke, .inl (cI, 130, .inl (fun _ => 0))), (mma, .inl (cI, 3, .inl (fun _ => 0))), (mth, .inl (cI, 3, .inl (fun _ => 0))), (mtr, .inl (cI, 20, .inl (fun _ => 0)))] H := hP
    replace hD : va_D _ [(mki, .inl (cI, 8, .inl (fun _ => 0))), (mpa, .inl (cI, 8, .inl (fun _ => 0))), (mta, .inl (cI, 8, .inl (fun _ => 0))), (mla, .inl (cI, 40, .inl (fun _ => 0))), (msl, .inl (cI, 40, .inl (fun _ => 0))), (mco, .inl (cI, 3, .inl (zL3 5 10 50))), (mso, .inl (cI, 8, .inl (fun _ => 0))), (msi, .inl (cI, 8, .inl (fun _ => 0))), (msh, .inl (cI, 8, .inl (fun _ => 0))), (mce, .inl (cJ, 1280, .inr (.inl (fun _ => 0)))), (mca, .inl (cJ, 160, .inr (.inl (fun _ => 0)))), (mwo, .inl (cI, 64, .inl fw_)), (mnu, .inl (cI, 10, .inl fn_)), (mte, .inl (cI, 3, .inl (fun _ => 0))), (mwa, .inl (cI, 130, .inl (fun _ => 0))), (mke, .inl (cI, 130, .inl (fun _ => 0))), (mma, .inl (cI, 3, .inl (fun _ => 0))), (mth, .inl (cI, 3, .inl (fun _ => 0))), (mtr, .inl (cI, 20, .inl (fun _ => 0)))] := hD
    rcases hr_58 with ⟨rfl, g_60⟩ | ⟨rfl, g_61, g_62⟩ | ⟨rfl, g_63, g_64, g_65⟩ | ⟨rfl, g_66, g_67, g_68, g_69⟩ | ⟨rfl, g_70, g_71, g_72, g_73⟩
    · refine lv_icmp_eq (tgt := 1371) hx hb dL_law_374 (by decide) (fun c_74 => ?_) (fun c_74 => ?_)
      · refine lv_iinc (v := 6) (lv' := [(3, .int 6), (2, .ref m0), (1, .ref x0), (0, .ref b)]) hx hb dL_law_1371 hl (k := 0) rfl (by decide) (by decide) rfl (fun ls hl => ?_)
        refine lv_goto (tgt := 18) hx hb dL_law_1374 (by decide) ?_
        refine lv_iload_n hx hb dL_law_18 rfl (lv_at hl 0 rfl) ?_
        refine lv_aload_n hx hb dL_law_19 rfl (lv_at hl 3 rfl) ?_
        refine va_slen hx hb hX hbl hbA hS dL_law_20 ?_
        refine lv_topi (fun y_75 ey_75 => ?_)
        obtain rfl : y_75 = 6 := ey_75.trans (by decide)
        refine lv_bipush (v := 6) hx hb dL_law_21 (by decide) ?_
        refine lv_isub hx hb dL_law_23 ?_
        refine lv_topi (fun y_76 ey_76 => ?_)
        obtain rfl : y_76 = 0 := ey_76.trans (by decide)
        refine lv_icmp_gt (tgt := 1377) hx hb dL_law_24 (by decide) (fun c_77 => ?_) (fun c_77 => ?_)
        · refine lv_iconst (v := 1) hx hb dL_law_1377 (by decide) ?_
          refine va_forget (fun q hq => hS.2.2 q hq) ?_
          refine W.widen (k := 600000) (n := 7302250) (Nat.le_of_ble_eq_true rfl) (Nat.le_of_ble_eq_true rfl) ?_
          exact lw_ret hx hb hr hlocks dL_law_1378
        · exact absurd c_77 (by decide)
      · exact absurd c_74 (by decide)
    · exfalso; omega
    · exfalso; omega
    · exfalso; omega
    · exfalso; omega
  · refine lv_aload_n hx hb dL_law_345 rfl (lv_at hl 1 rfl) ?_
    refine lv_aload_n hx hb dL_law_346 rfl (lv_at hl 3 rfl) ?_
    refine lv_iload_n hx hb dL_law_347 rfl (lv_at hl 0 rfl) ?_
    refine lv_iconst (v := 1) hx hb dL_law_348 (by decide) ?_
    refine lv_iadd hx hb dL_law_349 ?_
    refine lv_topi (fun y_78 ey_78 => ?_)
    obtain rfl : y_78 = 1 := ey_78.trans (by decide)
    refine va_sld hx hb hX hbl hbA hS (zf_in (by decide) (by decide)) dL_law_350 ?_
    refine lv_topi (fun y_79 ey_79 => ?_)
    obtain rfl : a_3 = y_79 := ea_3.trans ey_79.symm
    refine lv_aload_n hx hb dL_law_351 rfl (lv_at hl 3 rfl) ?_
    refine lv_iload_n hx hb dL_law_352 rfl (lv_at hl 0 rfl) ?_
    refine lv_iconst (v := 2) hx hb dL_law_353 (by decide) ?_
    refine lv_iadd hx hb dL_law_354 ?_
    refine lv_topi (fun y_80 ey_80 => ?_)
    obtain rfl : y_80 = 2 := ey_80.trans (by decide)
    refine va_sld hx hb hX hbl hbA hS (zf_in (by decide) (by decide)) dL_law_355 ?_
    refine lv_topi (fun y_81 ey_81 => ?_)
    obtain rfl : a_6 = y_81 := ea_6.trans ey_81.symm
    refine lv_aload_n hx hb dL_law_356 rfl (lv_at hl 3 rfl) ?_
    refine lv_iload_n hx hb dL_law_357 rfl (lv_at hl 0 rfl) ?_
    refine lv_iconst (v := 3) hx hb dL_law_358 (by decide) ?_
    refine lv_iadd hx hb dL_law_359 ?_
    refine lv_topi (fun y_82 ey_82 => ?_)
    obtain rfl : y_82 = 3 := ey_82.trans (by decide)
    refine va_sld hx hb hX hbl hbA hS (zf_in (by decide) (by decide)) dL_law_360 ?_
    refine lv_topi (fun y_83 ey_83 => ?_)
    obtain rfl : a_9 = y_83 := ea_9.trans ey_83.symm
    refine lv_aload_n hx hb dL_law_361 rfl (lv_at hl 3 rfl) ?_
    refine lv_iload_n hx hb dL_law_362 rfl (lv_at hl 0 rfl) ?_
    refine lv_iconst (v := 4) hx hb dL_law_363 (by decide) ?_
    refine lv_iadd hx hb dL_law_364 ?_
    refine lv_topi (fun y_84 ey_84 => ?_)
    obtain rfl : y_84 = 4 := ey_84.trans (by decide)
    refine va_sld hx hb hX hbl hbA hS (zf_in (by decide) (by decide)) dL_law_365 ?_
    refine lv_topi (fun y_85 ey_85 => ?_)
    obtain rfl : a_12 = y_85 := ea_12.trans ey_85.symm
    refine lv_aload_n hx hb dL_law_366 rfl (lv_at hl 3 rfl) ?_
    refine lv_iload_n hx hb dL_law_367 rfl (lv_at hl 0 rfl) ?_
    refine lv_iconst (v := 5) hx hb dL_law_368 (by decide) ?_
    refine lv_iadd hx hb dL_law_369 ?_
    refine lv_topi (fun y_86 ey_86 => ?_)
    obtain rfl : y_86 = 5 := ey_86.trans (by decide)
    refine va_sld hx hb hX hbl hbA hS (zf_in (by decide) (by decide)) dL_law_370 ?_
    refine lv_topi (fun y_87 ey_87 => ?_)
    obtain rfl : a_15 = y_87 := ea_15.trans ey_87.symm
    skip
    refine zw_V (As := [.int a_3, .int a_6, .int a_9, .int a_12, .int a_15]) (rest := [.int (-1)]) (wr := [(mki, .inl (cI, 8, .inl (fun _ => 0))), (mpa, .inl (cI, 8, .inl (fun _ => 0))), (mta, .inl (cI, 8, .inl (fun _ => 0))), (mla, .inl (cI, 40, .inl (fun _ => 0))), (msl, .inl (cI, 40, .inl (fun _ => 0))), (mco, .inl (cI, 3, .inl (zL3 5 10 50))), (mso, .inl (cI, 8, .inl (fun _ => 0))), (msi, .inl (cI, 8, .inl (fun _ => 0))), (msh, .inl (cI, 8, .inl (fun _ => 0))), (mce, .inl (cJ, 1280, .inr (.inl (fun _ => 0)))), (mca, .inl (cJ, 160, .inr (.inl (fun _ => 0)))), (mwo, .inl (cI, 64, .inl fw_)), (mnu, .inl (cI, 10, .inl fn_)), (mte, .inl (cI, 3, .inl (fun _ => 0))), (mwa, .inl (cI, 130, .inl (fun _ => 0))), (mke, .inl (cI, 130, .inl (fun _ => 0))), (mma, .inl (cI, 3, .inl (fun _ => 0))), (mth, .inl (cI, 3, .inl (fun _ => 0))), (mtr, .inl (cI, 20, .inl (fun _ => 0)))]) ⟨hx, hb, hml, hown, hts⟩ (c_M_copy l D cI cJ cZ cP cS m0 mrf mki mpa mta mla msl mco mhe mso msi msh mce mca mwo mnu mte mwa mke mma mth mtr (a_3) (a_6) (a_9) (a_12) (a_15)  H.size) (cwV 5 hts gq_29 rfl rfl rfl (by decide +kernel) ⟨Nat.le_of_ble_eq_true rfl, Nat.le_of_ble_eq_true rfl⟩) hK hN (hZ.kept hS) hP hD hS hA [0, 1, 8] [2, 3, 4, 5, 6, 7, 9, 10, 11, 12, 13, 14, 15, 16, 17, 18, 19, 20, 21] rfl rfl (by decide) (by decide) (by decide) (va_recv hK hP (ci := 8) (q0 := 0) rfl rfl) rfl hl.1 rfl (Nat.le_of_ble_eq_true rfl) dL_law_371 ⟨Nat.le_of_ble_eq_true rfl, Nat.le_of_ble_eq_true rfl⟩ (fun r_88 u_89 H locs hr_88 hP hD hS => ?_)
    replace hP : va_P D vwCl [(mki, .inl (cI, 8, .inl (fun _ => 0))), (mpa, .inl (cI, 8, .inl (fun _ => 0))), (mta, .inl (cI, 8, .inl (fun _ => 0))), (mla, .inl (cI, 40, .inl (fun _ => 0))), (msl, .inl (cI, 40, .inl (fun _ => 0))), (mco, .inl (cI, 3, .inl (zL3 5 10 50))), (mso, .inl (cI, 8, .inl (fun _ => 0))), (msi, .inl (cI, 8, .inl (fun _ => 0))), (msh, .inl (cI, 8, .inl (fun _ => 0))), (mce, .inl (cJ, 1280, .inr (.inl (fun _ => 0)))), (mca, .inl (cJ, 160, .inr (.inl (fun _ => 0)))), (mwo, .inl (cI, 64, .inl fw_)), (mnu, .inl (cI, 10, .inl fn_)), (mte, .inl (cI, 3, .inl (fun _ => 0))), (mwa, .inl (cI, 130, .inl (fun _ => 0))), (mke, .inl (cI, 130, .inl (fun _ => 0))), (mma, .inl (cI, 3, .inl (fun _ => 0))), (mth, .inl (cI, 3, .inl (fun _ => 0))), (mtr, .inl (cI, 20, .inl (fun _ => 0)))] H := hP
    replace hD : va_D _ [(mki, .inl (cI, 8, .inl (fun _ => 0))), (mpa, .inl (cI, 8, .inl (fun _ => 0))), (mta, .inl (cI, 8, .inl (fun _ => 0))), (mla, .inl (cI, 40, .inl (fun _ => 0))), (msl, .inl (cI, 40, .inl (fun _ => 0))), (mco, .inl (cI, 3, .inl (zL3 5 10 50))), (mso, .inl (cI, 8, .inl (fun _ => 0))), (msi, .inl (cI, 8, .inl (fun _ => 0))), (msh, .inl (cI, 8, .inl (fun _ => 0))), (mce, .inl (cJ, 1280, .inr (.inl (fun _ => 0)))), (mca, .inl (cJ, 160, .inr (.inl (fun _ => 0)))), (mwo, .inl (cI, 64, .inl fw_)), (mnu, .inl (cI, 10, .inl fn_)), (mte, .inl (cI, 3, .inl (fun _ => 0))), (mwa, .inl (cI, 130, .inl (fun _ => 0))), (mke, .inl (cI, 130, .inl (fun _ => 0))), (mma, .inl (cI, 3, .inl (fun _ => 0))), (mth, .inl (cI, 3, .inl (fun _ => 0))), (mtr, .inl (cI, 20, .inl (fun _ => 0)))] := hD
    rcases hr_88 with ⟨rfl, g_90⟩ | ⟨rfl, g_91, g_92⟩ | ⟨rfl, g_93, g_94, g_95⟩ | ⟨rfl, g_96, g_97, g_98, g_99⟩ | ⟨rfl, g_100, g_101, g_102, g_103⟩
    · refine lv_icmp_eq (tgt := 1371) hx hb dL_law_374 (by decide) (fun c_104 => ?_) (fun c_104 => ?_)
      · refine lv_iinc (v := 6) (lv' := [(3, .int 6), (2, .ref m0), (1, .ref x0), (0, .ref b)]) hx hb dL_law_1371 hl (k := 0) rfl (by decide) (by decide) rfl (fun ls hl => ?_)
        refine lv_goto (tgt := 18) hx hb dL_law_1374 (by decide) ?_
        refine lv_iload_n hx hb dL_law_18 rfl (lv_at hl 0 rfl) ?_
        refine lv_aload_n hx hb dL_law_19 rfl (lv_at hl 3 rfl) ?_
        refine va_slen hx hb hX hbl hbA hS dL_law_20 ?_
        refine lv_topi (fun y_105 ey_105 => ?_)
        obtain rfl : y_105 = 6 := ey_105.trans (by decide)
        refine lv_bipush (v := 6) hx hb dL_law_21 (by decide) ?_
        refine lv_isub hx hb dL_law_23 ?_
        refine lv_topi (fun y_106 ey_106 => ?_)
        obtain rfl : y_106 = 0 := ey_106.trans (by decide)
        refine lv_icmp_gt (tgt := 1377) hx hb dL_law_24 (by decide) (fun c_107 => ?_) (fun c_107 => ?_)
        · refine lv_iconst (v := 1) hx hb dL_law_1377 (by decide) ?_
          refine va_forget (fun q hq => hS.2.2 q hq) ?_
          refine W.widen (k := 600000) (n := 7302250) (Nat.le_of_ble_eq_true rfl) (Nat.le_of_ble_eq_true rfl) ?_
          exact lw_ret hx hb hr hlocks dL_law_1378
        · exact absurd c_107 (by decide)
      · exact absurd c_104 (by decide)
    · exfalso; omega
    · exfalso; omega
    · exfalso; omega
    · exfalso; omega
  · refine lv_aload_n hx hb dL_law_345 rfl (lv_at hl 1 rfl) ?_
    refine lv_aload_n hx hb dL_law_346 rfl (lv_at hl 3 rfl) ?_
    refine lv_iload_n hx hb dL_law_347 rfl (lv_at hl 0 rfl) ?_
    refine lv_iconst (v := 1) hx hb dL_law_348 (by decide) ?_
    refine lv_iadd hx hb dL_law_349 ?_
    refine lv_topi (fun y_108 ey_108 => ?_)
    obtain rfl : y_108 = 1 := ey_108.trans (by decide)
    refine va_sld hx hb hX hbl hbA hS (zf_in (by decide) (by decide)) dL_law_350 ?_
    refine lv_topi (fun y_109 ey_109 => ?_)
    obtain rfl : a_3 = y_109 := ea_3.trans ey_109.symm
    refine lv_aload_n hx hb dL_law_351 rfl (lv_at hl 3 rfl) ?_
    refine lv_iload_n hx hb dL_law_352 rfl (lv_at hl 0 rfl) ?_
    refine lv_iconst (v := 2) hx hb dL_law_353 (by decide) ?_
    refine lv_iadd hx hb dL_law_354 ?_
    refine lv_topi (fun y_110 ey_110 => ?_)
    obtain rfl : y_110 = 2 := ey_110.trans (by decide)
    refine va_sld hx hb hX hbl hbA hS (zf_in (by decide) (by decide)) dL_law_355 ?_
    refine lv_topi (fun y_111 ey_111 => ?_)
    obtain rfl : a_6 = y_111 := ea_6.trans ey_111.symm
    refine lv_aload_n hx hb dL_law_356 rfl (lv_at hl 3 rfl) ?_
    refine lv_iload_n hx hb dL_law_357 rfl (lv_at hl 0 rfl) ?_
    refine lv_iconst (v := 3) hx hb dL_law_358 (by decide) ?_
    refine lv_iadd hx hb dL_law_359 ?_
    refine lv_topi (fun y_112 ey_112 => ?_)
    obtain rfl : y_112 = 3 := ey_112.trans (by decide)
    refine va_sld hx hb hX hbl hbA hS (zf_in (by decide) (by decide)) dL_law_360 ?_
    refine lv_topi (fun y_113 ey_113 => ?_)
    obtain rfl : a_9 = y_113 := ea_9.trans ey_113.symm
    refine lv_aload_n hx hb dL_law_361 rfl (lv_at hl 3 rfl) ?_
    refine lv_iload_n hx hb dL_law_362 rfl (lv_at hl 0 rfl) ?_
    refine lv_iconst (v := 4) hx hb dL_law_363 (by decide) ?_
    refine lv_iadd hx hb dL_law_364 ?_
    refine lv_topi (fun y_114 ey_114 => ?_)
    obtain rfl : y_114 = 4 := ey_114.trans (by decide)
    refine va_sld hx hb hX hbl hbA hS (zf_in (by decide) (by decide)) dL_law_365 ?_
    refine lv_topi (fun y_115 ey_115 => ?_)
    obtain rfl : a_12 = y_115 := ea_12.trans ey_115.symm
    refine lv_aload_n hx hb dL_law_366 rfl (lv_at hl 3 rfl) ?_
    refine lv_iload_n hx hb dL_law_367 rfl (lv_at hl 0 rfl) ?_
    refine lv_iconst (v := 5) hx hb dL_law_368 (by decide) ?_
    refine lv_iadd hx hb dL_law_369 ?_
    refine lv_topi (fun y_116 ey_116 => ?_)
    obtain rfl : y_116 = 5 := ey_116.trans (by decide)
    refine va_sld hx hb hX hbl hbA hS (zf_in (by decide) (by decide)) dL_law_370 ?_
    refine lv_topi (fun y_117 ey_117 => ?_)
    obtain rfl : a_15 = y_117 := ea_15.trans ey_117.symm
    skip
    refine zw_V (As := [.int a_3, .int a_6, .int a_9, .int a_12, .int a_15]) (rest := [.int (-1)]) (wr := [(mki, .inl (cI, 8, .inl (fun _ => 0))), (mpa, .inl (cI, 8, .inl (fun _ => 0))), (mta, .inl (cI, 8, .inl (fun _ => 0))), (mla, .inl (cI, 40, .inl (fun _ => 0))), (msl, .inl (cI, 40, .inl (fun _ => 0))), (mco, .inl (cI, 3, .inl (zL3 5 10 50))), (mso, .inl (cI, 8, .inl (fun _ => 0))), (msi, .inl (cI, 8, .inl (fun _ => 0))), (msh, .inl (cI, 8, .inl (fun _ => 0))), (mce, .inl (cJ, 1280, .inr (.inl (fun _ => 0)))), (mca, .inl (cJ, 160, .inr (.inl (fun _ => 0)))), (mwo, .inl (cI, 64, .inl fw_)), (mnu, .inl (cI, 10, .inl fn_)), (mte, .inl (cI, 3, .inl (fun _ => 0))), (mwa, .inl (cI, 130, .inl (fun _ => 0))), (mke, .inl (cI, 130, .inl (fun _ => 0))), (mma, .inl (cI, 3, .inl (fun _ => 0))), (mth, .inl (cI, 3, .inl (fun _ => 0))), (mtr, .inl (cI, 20, .inl (fun _ => 0)))]) ⟨hx, hb, hml, hown, hts⟩ (c_M_copy l D cI cJ cZ cP cS m0 mrf mki mpa mta mla msl mco mhe mso msi msh mce mca mwo mnu mte mwa mke mma mth mtr (a_3) (a_6) (a_9) (a_12) (a_15)  H.size) (cwV 5 hts gq_29 rfl rfl rfl (by decide +kernel) ⟨Nat.le_of_ble_eq_true rfl, Nat.le_of_ble_eq_true rfl⟩) hK hN (hZ.kept hS) hP hD hS hA [0, 1, 8] [2, 3, 4, 5, 6, 7, 9, 10, 11, 12, 13, 14, 15, 16, 17, 18, 19, 20, 21] rfl rfl (by decide) (by decide) (by decide) (va_recv hK hP (ci := 8) (q0 := 0) rfl rfl) rfl hl.1 rfl (Nat.le_of_ble_eq_true rfl) dL_law_371 ⟨Nat.le_of_ble_eq_true rfl, Nat.le_of_ble_eq_true rfl⟩ (fun r_118 u_119 H locs hr_118 hP hD hS => ?_)
    replace hP : va_P D vwCl [(mki, .inl (cI, 8, .inl (fun _ => 0))), (mpa, .inl (cI, 8, .inl (fun _ => 0))), (mta, .inl (cI, 8, .inl (fun _ => 0))), (mla, .inl (cI, 40, .inl (fun _ => 0))), (msl, .inl (cI, 40, .inl (fun _ => 0))), (mco, .inl (cI, 3, .inl (zL3 5 10 50))), (mso, .inl (cI, 8, .inl (fun _ => 0))), (msi, .inl (cI, 8, .inl (fun _ => 0))), (msh, .inl (cI, 8, .inl (fun _ => 0))), (mce, .inl (cJ, 1280, .inr (.inl (fun _ => 0)))), (mca, .inl (cJ, 160, .inr (.inl (fun _ => 0)))), (mwo, .inl (cI, 64, .inl fw_)), (mnu, .inl (cI, 10, .inl fn_)), (mte, .inl (cI, 3, .inl (fun _ => 0))), (mwa, .inl (cI, 130, .inl (fun _ => 0))), (mke, .inl (cI, 130, .inl (fun _ => 0))), (mma, .inl (cI, 3, .inl (fun _ => 0))), (mth, .inl (cI, 3, .inl (fun _ => 0))), (mtr, .inl (cI, 20, .inl (fun _ => 0)))] H := hP
    replace hD : va_D _ [(mki, .inl (cI, 8, .inl (fun _ => 0))), (mpa, .inl (cI, 8, .inl (fun _ => 0))), (mta, .inl (cI, 8, .inl (fun _ => 0))), (mla, .inl (cI, 40, .inl (fun _ => 0))), (msl, .inl (cI, 40, .inl (fun _ => 0))), (mco, .inl (cI, 3, .inl (zL3 5 10 50))), (mso, .inl (cI, 8, .inl (fun _ => 0))), (msi, .inl (cI, 8, .inl (fun _ => 0))), (msh, .inl (cI, 8, .inl (fun _ => 0))), (mce, .inl (cJ, 1280, .inr (.inl (fun _ => 0)))), (mca, .inl (cJ, 160, .inr (.inl (fun _ => 0)))), (mwo, .inl (cI, 64, .inl fw_)), (mnu, .inl (cI, 10, .inl fn_)), (mte, .inl (cI, 3, .inl (fun _ => 0))), (mwa, .inl (cI, 130, .inl (fun _ => 0))), (mke, .inl (cI, 130, .inl (fun _ => 0))), (mma, .inl (cI, 3, .inl (fun _ => 0))), (mth, .inl (cI, 3, .inl (fun _ => 0))), (mtr, .inl (cI, 20, .inl (fun _ => 0)))] := hD
    rcases hr_118 with ⟨rfl, g_120⟩ | ⟨rfl, g_121, g_122⟩ | ⟨rfl, g_123, g_124, g_125⟩ | ⟨rfl, g_126, g_127, g_128, g_129⟩ | ⟨rfl, g_130, g_131, g_132, g_133⟩
    · refine lv_icmp_eq (tgt := 1371) hx hb dL_law_374 (by decide) (fun c_134 => ?_) (fun c_134 => ?_)
      · refine lv_iinc (v := 6) (lv' := [(3, .int 6), (2, .ref m0), (1, .ref x0), (0, .ref b)]) hx hb dL_law_1371 hl (k := 0) rfl (by decide) (by decide) rfl (fun ls hl => ?_)
        refine lv_goto (tgt := 18) hx hb dL_law_1374 (by decide) ?_
        refine lv_iload_n hx hb dL_law_18 rfl (lv_at hl 0 rfl) ?_
        refine lv_aload_n hx hb dL_law_19 rfl (lv_at hl 3 rfl) ?_
        refine va_slen hx hb hX hbl hbA hS dL_law_20 ?_
        refine lv_topi (fun y_135 ey_135 => ?_)
        obtain rfl : y_135 = 6 := ey_135.trans (by decide)
        refine lv_bipush (v := 6) hx hb dL_law_21 (by decide) ?_
        refine lv_isub hx hb dL_law_23 ?_
        refine lv_topi (fun y_136 ey_136 => ?_)
        obtain rfl : y_136 = 0 := ey_136.trans (by decide)
        refine lv_icmp_gt (tgt := 1377) hx hb dL_law_24 (by decide) (fun c_137 => ?_) (fun c_137 => ?_)
        · refine lv_iconst (v := 1) hx hb dL_law_1377 (by decide) ?_
          refine va_forget (fun q hq => hS.2.2 q hq) ?_
          refine W.widen (k := 600000) (n := 7302250) (Nat.le_of_ble_eq_true rfl) (Nat.le_of_ble_eq_true rfl) ?_
          exact lw_ret hx hb hr hlocks dL_law_1378
        · exact absurd c_137 (by decide)
      · exact absurd c_134 (by decide)
    · exfalso; omega
    · exfalso; omega
    · exfalso; omega
    · exfalso; omega
  · refine lv_aload_n hx hb dL_law_345 rfl (lv_at hl 1 rfl) ?_
    refine lv_aload_n hx hb dL_law_346 rfl (lv_at hl 3 rfl) ?_
    refine lv_iload_n hx hb dL_law_347 rfl (lv_at hl 0 rfl) ?_
    refine lv_iconst (v := 1) hx hb dL_law_348 (by decide) ?_
    refine lv_iadd hx hb dL_law_349 ?_
    refine lv_topi (fun y_138 ey_138 => ?_)
    obtain rfl : y_138 = 1 := ey_138.trans (by decide)
    refine va_sld hx hb hX hbl hbA hS (zf_in (by decide) (by decide)) dL_law_350 ?_
    refine lv_topi (fun y_139 ey_139 => ?_)
    obtain rfl : a_3 = y_139 := ea_3.trans ey_139.symm
    refine lv_aload_n hx hb dL_law_351 rfl (lv_at hl 3 rfl) ?_
    refine lv_iload_n hx hb dL_law_352 rfl (lv_at hl 0 rfl) ?_
    refine lv_iconst (v := 2) hx hb dL_law_353 (by decide) ?_
    refine lv_iadd hx hb dL_law_354 ?_
    refine lv_topi (fun y_140 ey_140 => ?_)
    obtain rfl : y_140 = 2 := ey_140.trans (by decide)
    refine va_sld hx hb hX hbl hbA hS (zf_in (by decide) (by decide)) dL_law_355 ?_
    refine lv_topi (fun y_141 ey_141 => ?_)
    obtain rfl : a_6 = y_141 := ea_6.trans ey_141.symm
    refine lv_aload_n hx hb dL_law_356 rfl (lv_at hl 3 rfl) ?_
    refine lv_iload_n hx hb dL_law_357 rfl (lv_at hl 0 rfl) ?_
    refine lv_iconst (v := 3) hx hb dL_law_358 (by decide) ?_
    refine lv_iadd hx hb dL_law_359 ?_
    refine lv_topi (fun y_142 ey_142 => ?_)
    obtain rfl : y_142 = 3 := ey_142.trans (by decide)
    refine va_sld hx hb hX hbl hbA hS (zf_in (by decide) (by decide)) dL_law_360 ?_
    refine lv_topi (fun y_143 ey_143 => ?_)
    obtain rfl : a_9 = y_143 := ea_9.trans ey_143.symm
    refine lv_aload_n hx hb dL_law_361 rfl (lv_at hl 3 rfl) ?_
    refine lv_iload_n hx hb dL_law_362 rfl (lv_at hl 0 rfl) ?_
    refine lv_iconst (v := 4) hx hb dL_law_363 (by decide) ?_
    refine lv_iadd hx hb dL_law_364 ?_
    refine lv_topi (fun y_144 ey_144 => ?_)
    obtain rfl : y_144 = 4 := ey_144.trans (by decide)
    refine va_sld hx hb hX hbl hbA hS (zf_in (by decide) (by decide)) dL_law_365 ?_
    refine lv_topi (fun y_145 ey_145 => ?_)
    obtain rfl : a_12 = y_145 := ea_12.trans ey_145.symm
    refine lv_aload_n hx hb dL_law_366 rfl (lv_at hl 3 rfl) ?_
    refine lv_iload_n hx hb dL_law_367 rfl (lv_at hl 0 rfl) ?_
    refine lv_iconst (v := 5) hx hb dL_law_368 (by decide) ?_
    refine lv_iadd hx hb dL_law_369 ?_
    refine lv_topi (fun y_146 ey_146 => ?_)
    obtain rfl : y_146 = 5 := ey_146.trans (by decide)
    refine va_sld hx hb hX hbl hbA hS (zf_in (by decide) (by decide)) dL_law_370 ?_
    refine lv_topi (fun y_147 ey_147 => ?_)
    obtain rfl : a_15 = y_147 := ea_15.trans ey_147.symm
    skip
    refine zw_V (As := [.int a_3, .int a_6, .int a_9, .int a_12, .int a_15]) (rest := [.int (-1)]) (wr := [(mki, .inl (cI, 8, .inl (fun _ => 0))), (mpa, .inl (cI, 8, .inl (fun _ => 0))), (mta, .inl (cI, 8, .inl (fun _ => 0))), (mla, .inl (cI, 40, .inl (fun _ => 0))), (msl, .inl (cI, 40, .inl (fun _ => 0))), (mco, .inl (cI, 3, .inl (zL3 5 10 50))), (mso, .inl (cI, 8, .inl (fun _ => 0))), (msi, .inl (cI, 8, .inl (fun _ => 0))), (msh, .inl (cI, 8, .inl (fun _ => 0))), (mce, .inl (cJ, 1280, .inr (.inl (fun _ => 0)))), (mca, .inl (cJ, 160, .inr (.inl (fun _ => 0)))), (mwo, .inl (cI, 64, .inl fw_)), (mnu, .inl (cI, 10, .inl fn_)), (mte, .inl (cI, 3, .inl (fun _ => 0))), (mwa, .inl (cI, 130, .inl (fun _ => 0))), (mke, .inl (cI, 130, .inl (fun _ => 0))), (mma, .inl (cI, 3, .inl (fun _ => 0))), (mth, .inl (cI, 3, .inl (fun _ => 0))), (mtr, .inl (cI, 20, .inl (fun _ => 0)))]) ⟨hx, hb, hml, hown, hts⟩ (c_M_copy l D cI cJ cZ cP cS m0 mrf mki mpa mta mla msl mco mhe mso msi msh mce mca mwo mnu mte mwa mke mma mth mtr (a_3) (a_6) (a_9) (a_12) (a_15)  H.size) (cwV 5 hts gq_29 rfl rfl rfl (by decide +kernel) ⟨Nat.le_of_ble_eq_true rfl, Nat.le_of_ble_eq_true rfl⟩) hK hN (hZ.kept hS) hP hD hS hA [0, 1, 8] [2, 3, 4, 5, 6, 7, 9, 10, 11, 12, 13, 14, 15, 16, 17, 18, 19, 20, 21] rfl rfl (by decide) (by decide) (by decide) (va_recv hK hP (ci := 8) (q0 := 0) rfl rfl) rfl hl.1 rfl (Nat.le_of_ble_eq_true rfl) dL_law_371 ⟨Nat.le_of_ble_eq_true rfl, Nat.le_of_ble_eq_true rfl⟩ (fun r_148 u_149 H locs hr_148 hP hD hS => ?_)
    replace hP : va_P D vwCl [(mki, .inl (cI, 8, .inl (fun _ => 0))), (mpa, .inl (cI, 8, .inl (fun _ => 0))), (mta, .inl (cI, 8, .inl (fun _ => 0))), (mla, .inl (cI, 40, .inl (fun _ => 0))), (msl, .inl (cI, 40, .inl (fun _ => 0))), (mco, .inl (cI, 3, .inl (zL3 5 10 50))), (mso, .inl (cI, 8, .inl (fun _ => 0))), (msi, .inl (cI, 8, .inl (fun _ => 0))), (msh, .inl (cI, 8, .inl (fun _ => 0))), (mce, .inl (cJ, 1280, .inr (.inl (fun _ => 0)))), (mca, .inl (cJ, 160, .inr (.inl (fun _ => 0)))), (mwo, .inl (cI, 64, .inl fw_)), (mnu, .inl (cI, 10, .inl fn_)), (mte, .inl (cI, 3, .inl (fun _ => 0))), (mwa, .inl (cI, 130, .inl (fun _ => 0))), (mke, .inl (cI, 130, .inl (fun _ => 0))), (mma, .inl (cI, 3, .inl (fun _ => 0))), (mth, .inl (cI, 3, .inl (fun _ => 0))), (mtr, .inl (cI, 20, .inl (fun _ => 0)))] H := hP
    replace hD : va_D _ [(mki, .inl (cI, 8, .inl (fun _ => 0))), (mpa, .inl (cI, 8, .inl (fun _ => 0))), (mta, .inl (cI, 8, .inl (fun _ => 0))), (mla, .inl (cI, 40, .inl (fun _ => 0))), (msl, .inl (cI, 40, .inl (fun _ => 0))), (mco, .inl (cI, 3, .inl (zL3 5 10 50))), (mso, .inl (cI, 8, .inl (fun _ => 0))), (msi, .inl (cI, 8, .inl (fun _ => 0))), (msh, .inl (cI, 8, .inl (fun _ => 0))), (mce, .inl (cJ, 1280, .inr (.inl (fun _ => 0)))), (mca, .inl (cJ, 160, .inr (.inl (fun _ => 0)))), (mwo, .inl (cI, 64, .inl fw_)), (mnu, .inl (cI, 10, .inl fn_)), (mte, .inl (cI, 3, .inl (fun _ => 0))), (mwa, .inl (cI, 130, .inl (fun _ => 0))), (mke, .inl (cI, 130, .inl (fun _ => 0))), (mma, .inl (cI, 3, .inl (fun _ => 0))), (mth, .inl (cI, 3, .inl (fun _ => 0))), (mtr, .inl (cI, 20, .inl (fun _ => 0)))] := hD
    rcases hr_148 with ⟨rfl, g_150⟩ | ⟨rfl, g_151, g_152⟩ | ⟨rfl, g_153, g_154, g_155⟩ | ⟨rfl, g_156, g_157, g_158, g_159⟩ | ⟨rfl, g_160, g_161, g_162, g_163⟩
    · exfalso; omega
    · refine lv_icmp_eq (tgt := 1371) hx hb dL_law_374 (by decide) (fun c_164 => ?_) (fun c_164 => ?_)
      · refine lv_iinc (v := 6) (lv' := [(3, .int 6), (2, .ref m0), (1, .ref x0), (0, .ref b)]) hx hb dL_law_1371 hl (k := 0) rfl (by decide) (by decide) rfl (fun ls hl => ?_)
        refine lv_goto (tgt := 18) hx hb dL_law_1374 (by decide) ?_
        refine lv_iload_n hx hb dL_law_18 rfl (lv_at hl 0 rfl) ?_
        refine lv_aload_n hx hb dL_law_19 rfl (lv_at hl 3 rfl) ?_
        refine va_slen hx hb hX hbl hbA hS dL_law_20 ?_
        refine lv_topi (fun y_165 ey_165 => ?_)
        obtain rfl : y_165 = 6 := ey_165.trans (by decide)
        refine lv_bipush (v := 6) hx hb dL_law_21 (by decide) ?_
        refine lv_isub hx hb dL_law_23 ?_
        refine lv_topi (fun y_166 ey_166 => ?_)
        obtain rfl : y_166 = 0 := ey_166.trans (by decide)
        refine lv_icmp_gt (tgt := 1377) hx hb dL_law_24 (by decide) (fun c_167 => ?_) (fun c_167 => ?_)
        · refine lv_iconst (v := 1) hx hb dL_law_1377 (by decide) ?_
          refine va_forget (fun q hq => hS.2.2 q hq) ?_
          refine W.widen (k := 600000) (n := 7302250) (Nat.le_of_ble_eq_true rfl) (Nat.le_of_ble_eq_true rfl) ?_
          exact lw_ret hx hb hr hlocks dL_law_1378
        · exact absurd c_167 (by decide)
      · exact absurd c_164 (by decide)
    · exfalso; omega
    · exfalso; omega
    · exfalso; omega
  · refine lv_aload_n hx hb dL_law_345 rfl (lv_at hl 1 rfl) ?_
    refine lv_aload_n hx hb dL_law_346 rfl (lv_at hl 3 rfl) ?_
    refine lv_iload_n hx hb dL_law_347 rfl (lv_at hl 0 rfl) ?_
    refine lv_iconst (v := 1) hx hb dL_law_348 (by decide) ?_
    refine lv_iadd hx hb dL_law_349 ?_
    refine lv_topi (fun y_168 ey_168 => ?_)
    obtain rfl : y_168 = 1 := ey_168.trans (by decide)
    refine va_sld hx hb hX hbl hbA hS (zf_in (by decide) (by decide)) dL_law_350 ?_
    refine lv_topi (fun y_169 ey_169 => ?_)
    obtain rfl : a_3 = y_169 := ea_3.trans ey_169.symm
    refine lv_aload_n hx hb dL_law_351 rfl (lv_at hl 3 rfl) ?_
    refine lv_iload_n hx hb dL_law_352 rfl (lv_at hl 0 rfl) ?_
    refine lv_iconst (v := 2) hx hb dL_law_353 (by decide) ?_
    refine lv_iadd hx hb dL_law_354 ?_
    refine lv_topi (fun y_170 ey_170 => ?_)
    obtain rfl : y_170 = 2 := ey_170.trans (by decide)
    refine va_sld hx hb hX hbl hbA hS (zf_in (by decide) (by decide)) dL_law_355 ?_
    refine lv_topi (fun y_171 ey_171 => ?_)
    obtain rfl : a_6 = y_171 := ea_6.trans ey_171.symm
    refine lv_aload_n hx hb dL_law_356 rfl (lv_at hl 3 rfl) ?_
    refine lv_iload_n hx hb dL_law_357 rfl (lv_at hl 0 rfl) ?_
    refine lv_iconst (v := 3) hx hb dL_law_358 (by decide) ?_
    refine lv_iadd hx hb dL_law_359 ?_
    refine lv_topi (fun y_172 ey_172 => ?_)
    obtain rfl : y_172 = 3 := ey_172.trans (by decide)
    refine va_sld hx hb hX hbl hbA hS (zf_in (by decide) (by decide)) dL_law_360 ?_
    refine lv_topi (fun y_173 ey_173 => ?_)
    obtain rfl : a_9 = y_173 := ea_9.trans ey_173.symm
    refine lv_aload_n hx hb dL_law_361 rfl (lv_at hl 3 rfl) ?_
    refine lv_iload_n hx hb dL_law_362 rfl (lv_at hl 0 rfl) ?_
    refine lv_iconst (v := 4) hx hb dL_law_363 (by decide) ?_
    refine lv_iadd hx hb dL_law_364 ?_
    refine lv_topi (fun y_174 ey_174 => ?_)
    obtain rfl : y_174 = 4 := ey_174.trans (by decide)
    refine va_sld hx hb hX hbl hbA hS (zf_in (by decide) (by decide)) dL_law_365 ?_
    refine lv_topi (fun y_175 ey_175 => ?_)
    obtain rfl : a_12 = y_175 := ea_12.trans ey_175.symm
    refine lv_aload_n hx hb dL_law_366 rfl (lv_at hl 3 rfl) ?_
    refine lv_iload_n hx hb dL_law_367 rfl (lv_at hl 0 rfl) ?_
    refine lv_iconst (v := 5) hx hb dL_law_368 (by decide) ?_
    refine lv_iadd hx hb dL_law_369 ?_
    refine lv_topi (fun y_176 ey_176 => ?_)
    obtain rfl : y_176 = 5 := ey_176.trans (by decide)
    refine va_sld hx hb hX hbl hbA hS (zf_in (by decide) (by decide)) dL_law_370 ?_
    refine lv_topi (fun y_177 ey_177 => ?_)
    obtain rfl : a_15 = y_177 := ea_15.trans ey_177.symm
    skip
    refine zw_V (As := [.int a_3, .int a_6, .int a_9, .int a_12, .int a_15]) (rest := [.int (-1)]) (wr := [(mki, .inl (cI, 8, .inl (fun _ => 0))), (mpa, .inl (cI, 8, .inl (fun _ => 0))), (mta, .inl (cI, 8, .inl (fun _ => 0))), (mla, .inl (cI, 40, .inl (fun _ => 0))), (msl, .inl (cI, 40, .inl (fun _ => 0))), (mco, .inl (cI, 3, .inl (zL3 5 10 50))), (mso, .inl (cI, 8, .inl (fun _ => 0))), (msi, .inl (cI, 8, .inl (fun _ => 0))), (msh, .inl (cI, 8, .inl (fun _ => 0))), (mce, .inl (cJ, 1280, .inr (.inl (fun _ => 0)))), (mca, .inl (cJ, 160, .inr (.inl (fun _ => 0)))), (mwo, .inl (cI, 64, .inl fw_)), (mnu, .inl (cI, 10, .inl fn_)), (mte, .inl (cI, 3, .inl (fun _ => 0))), (mwa, .inl (cI, 130, .inl (fun _ => 0))), (mke, .inl (cI, 130, .inl (fun _ => 0))), (mma, .inl (cI, 3, .inl (fun _ => 0))), (mth, .inl (cI, 3, .inl (fun _ => 0))), (mtr, .inl (cI, 20, .inl (fun _ => 0)))]) ⟨hx, hb, hml, hown, hts⟩ (c_M_copy l D cI cJ cZ cP cS m0 mrf mki mpa mta mla msl mco mhe mso msi msh mce mca mwo mnu mte mwa mke mma mth mtr (a_3) (a_6) (a_9) (a_12) (a_15)  H.size) (cwV 5 hts gq_29 rfl rfl rfl (by decide +kernel) ⟨Nat.le_of_ble_eq_true rfl, Nat.le_of_ble_eq_true rfl⟩) hK hN (hZ.kept hS) hP hD hS hA [0, 1, 8] [2, 3, 4, 5, 6, 7, 9, 10, 11, 12, 13, 14, 15, 16, 17, 18, 19, 20, 21] rfl rfl (by decide) (by decide) (by decide) (va_recv hK hP (ci := 8) (q0 := 0) rfl rfl) rfl hl.1 rfl (Nat.le_of_ble_eq_true rfl) dL_law_371 ⟨Nat.le_of_ble_eq_true rfl, Nat.le_of_ble_eq_true rfl⟩ (fun r_178 u_179 H locs hr_178 hP hD hS => ?_)
    replace hP : va_P D vwCl [(mki, .inl (cI, 8, .inl (fun _ => 0))), (mpa, .inl (cI, 8, .inl (fun _ => 0))), (mta, .inl (cI, 8, .inl (fun _ => 0))), (mla, .inl (cI, 40, .inl (fun _ => 0))), (msl, .inl (cI, 40, .inl (fun _ => 0))), (mco, .inl (cI, 3, .inl (zL3 5 10 50))), (mso, .inl (cI, 8, .inl (fun _ => 0))), (msi, .inl (cI, 8, .inl (fun _ => 0))), (msh, .inl (cI, 8, .inl (fun _ => 0))), (mce, .inl (cJ, 1280, .inr (.inl (fun _ => 0)))), (mca, .inl (cJ, 160, .inr (.inl (fun _ => 0)))), (mwo, .inl (cI, 64, .inl fw_)), (mnu, .inl (cI, 10, .inl fn_)), (mte, .inl (cI, 3, .inl (fun _ => 0))), (mwa, .inl (cI, 130, .inl (fun _ => 0))), (mke, .inl (cI, 130, .inl (fun _ => 0))), (mma, .inl (cI, 3, .inl (fun _ => 0))), (mth, .inl (cI, 3, .inl (fun _ => 0))), (mtr, .inl (cI, 20, .inl (fun _ => 0)))] H := hP
    replace hD : va_D _ [(mki, .inl (cI, 8, .inl (fun _ => 0))), (mpa, .inl (cI, 8, .inl (fun _ => 0))), (mta, .inl (cI, 8, .inl (fun _ => 0))), (mla, .inl (cI, 40, .inl (fun _ => 0))), (msl, .inl (cI, 40, .inl (fun _ => 0))), (mco, .inl (cI, 3, .inl (zL3 5 10 50))), (mso, .inl (cI, 8, .inl (fun _ => 0))), (msi, .inl (cI, 8, .inl (fun _ => 0))), (msh, .inl (cI, 8, .inl (fun _ => 0))), (mce, .inl (cJ, 1280, .inr (.inl (fun _ => 0)))), (mca, .inl (cJ, 160, .inr (.inl (fun _ => 0)))), (mwo, .inl (cI, 64, .inl fw_)), (mnu, .inl (cI, 10, .inl fn_)), (mte, .inl (cI, 3, .inl (fun _ => 0))), (mwa, .inl (cI, 130, .inl (fun _ => 0))), (mke, .inl (cI, 130, .inl (fun _ => 0))), (mma, .inl (cI, 3, .inl (fun _ => 0))), (mth, .inl (cI, 3, .inl (fun _ => 0))), (mtr, .inl (cI, 20, .inl (fun _ => 0)))] := hD
    rcases hr_178 with ⟨rfl, g_180⟩ | ⟨rfl, g_181, g_182⟩ | ⟨rfl, g_183, g_184, g_185⟩ | ⟨rfl, g_186, g_187, g_188, g_189⟩ | ⟨rfl, g_190, g_191, g_192, g_193⟩
    · exfalso; omega
    · refine lv_icmp_eq (tgt := 1371) hx hb dL_law_374 (by decide) (fun c_194 => ?_) (fun c_194 => ?_)
      · refine lv_iinc (v := 6) (lv' := [(3, .int 6), (2, .ref m0), (1, .ref x0), (0, .ref b)]) hx hb dL_law_1371 hl (k := 0) rfl (by decide) (by decide) rfl (fun ls hl => ?_)
        refine lv_goto (tgt := 18) hx hb dL_law_1374 (by decide) ?_
        refine lv_iload_n hx hb dL_law_18 rfl (lv_at hl 0 rfl) ?_
        refine lv_aload_n hx hb dL_law_19 rfl (lv_at hl 3 rfl) ?_
        refine va_slen hx hb hX hbl hbA hS dL_law_20 ?_
        refine lv_topi (fun y_195 ey_195 => ?_)
        obtain rfl : y_195 = 6 := ey_195.trans (by decide)
        refine lv_bipush (v := 6) hx hb dL_law_21 (by decide) ?_
        refine lv_isub hx hb dL_law_23 ?_
        refine lv_topi (fun y_196 ey_196 => ?_)
        obtain rfl : y_196 = 0 := ey_196.trans (by decide)
        refine lv_icmp_gt (tgt := 1377) hx hb dL_law_24 (by decide) (fun c_197 => ?_) (fun c_197 => ?_)
        · refine lv_iconst (v := 1) hx hb dL_law_1377 (by decide) ?_
          refine va_forget (fun q hq => hS.2.2 q hq) ?_
          refine W.widen (k := 600000) (n := 7302250) (Nat.le_of_ble_eq_true rfl) (Nat.le_of_ble_eq_true rfl) ?_
          exact lw_ret hx hb hr hlocks dL_law_1378
        · exact absurd c_197 (by decide)
      · exact absurd c_194 (by decide)
    · exfalso; omega
    · exfalso; omega
    · exfalso; omega
  · refine lv_aload_n hx hb dL_law_345 rfl (lv_at hl 1 rfl) ?_
    refine lv_aload_n hx hb dL_law_346 rfl (lv_at hl 3 rfl) ?_
    refine lv_iload_n hx hb dL_law_347 rfl (lv_at hl 0 rfl) ?_
    refine lv_iconst (v := 1) hx hb dL_law_348 (by decide) ?_
    refine lv_iadd hx hb dL_law_349 ?_
    refine lv_topi (fun y_198 ey_198 => ?_)
    obtain rfl : y_198 = 1 := ey_198.trans (by decide)
    refine va_sld hx hb hX hbl hbA hS (zf_in (by decide) (by decide)) dL_law_350 ?_
    refine lv_topi (fun y_199 ey_199 => ?_)
    obtain rfl : a_3 = y_199 := ea_3.trans ey_199.symm
    refine lv_aload_n hx hb dL_law_351 rfl (lv_at hl 3 rfl) ?_
    refine lv_iload_n hx hb dL_law_352 rfl (lv_at hl 0 rfl) ?_
    refine lv_iconst (v := 2) hx hb dL_law_353 (by decide) ?_
    refine lv_iadd hx hb dL_law_354 ?_
    refine lv_topi (fun y_200 ey_200 => ?_)
    obtain rfl : y_200 = 2 := ey_200.trans (by decide)
    refine va_sld hx hb hX hbl hbA hS (zf_in (by decide) (by decide)) dL_law_355 ?_
    refine lv_topi (fun y_201 ey_201 => ?_)
    obtain rfl : a_6 = y_201 := ea_6.trans ey_201.symm
    refine lv_aload_n hx hb dL_law_356 rfl (lv_at hl 3 rfl) ?_
    refine lv_iload_n hx hb dL_law_357 rfl (lv_at hl 0 rfl) ?_
    refine lv_iconst (v := 3) hx hb dL_law_358 (by decide) ?_
    refine lv_iadd hx hb dL_law_359 ?_
    refine lv_topi (fun y_202 ey_202 => ?_)
    obtain rfl : y_202 = 3 := ey_202.trans (by decide)
    refine va_sld hx hb hX hbl hbA hS (zf_in (by decide) (by decide)) dL_law_360 ?_
    refine lv_topi (fun y_203 ey_203 => ?_)
    obtain rfl : a_9 = y_203 := ea_9.trans ey_203.symm
    refine lv_aload_n hx hb dL_law_361 rfl (lv_at hl 3 rfl) ?_
    refine lv_iload_n hx hb dL_law_362 rfl (lv_at hl 0 rfl) ?_
    refine lv_iconst (v := 4) hx hb dL_law_363 (by decide) ?_
    refine lv_iadd hx hb dL_law_364 ?_
    refine lv_topi (fun y_204 ey_204 => ?_)
    obtain rfl : y_204 = 4 := ey_204.trans (by decide)
    refine va_sld hx hb hX hbl hbA hS (zf_in (by decide) (by decide)) dL_law_365 ?_
    refine lv_topi (fun y_205 ey_205 => ?_)
    obtain rfl : a_12 = y_205 := ea_12.trans ey_205.symm
    refine lv_aload_n hx hb dL_law_366 rfl (lv_at hl 3 rfl) ?_
    refine lv_iload_n hx hb dL_law_367 rfl (lv_at hl 0 rfl) ?_
    refine lv_iconst (v := 5) hx hb dL_law_368 (by decide) ?_
    refine lv_iadd hx hb dL_law_369 ?_
    refine lv_topi (fun y_206 ey_206 => ?_)
    obtain rfl : y_206 = 5 := ey_206.trans (by decide)
    refine va_sld hx hb hX hbl hbA hS (zf_in (by decide) (by decide)) dL_law_370 ?_
    refine lv_topi (fun y_207 ey_207 => ?_)
    obtain rfl : a_15 = y_207 := ea_15.trans ey_207.symm
    skip
    refine zw_V (As := [.int a_3, .int a_6, .int a_9, .int a_12, .int a_15]) (rest := [.int (-1)]) (wr := [(mki, .inl (cI, 8, .inl (fun _ => 0))), (mpa, .inl (cI, 8, .inl (fun _ => 0))), (mta, .inl (cI, 8, .inl (fun _ => 0))), (mla, .inl (cI, 40, .inl (fun _ => 0))), (msl, .inl (cI, 40, .inl (fun _ => 0))), (mco, .inl (cI, 3, .inl (zL3 5 10 50))), (mso, .inl (cI, 8, .inl (fun _ => 0))), (msi, .inl (cI, 8, .inl (fun _ => 0))), (msh, .inl (cI, 8, .inl (fun _ => 0))), (mce, .inl (cJ, 1280, .inr (.inl (fun _ => 0)))), (mca, .inl (cJ, 160, .inr (.inl (fun _ => 0)))), (mwo, .inl (cI, 64, .inl fw_)), (mnu, .inl (cI, 10, .inl fn_)), (mte, .inl (cI, 3, .inl (fun _ => 0))), (mwa, .inl (cI, 130, .inl (fun _ => 0))), (mke, .inl (cI, 130, .inl (fun _ => 0))), (mma, .inl (cI, 3, .inl (fun _ => 0))), (mth, .inl (cI, 3, .inl (fun _ => 0))), (mtr, .inl (cI, 20, .inl (fun _ => 0)))]) ⟨hx, hb, hml, hown, hts⟩ (c_M_copy l D cI cJ cZ cP cS m0 mrf mki mpa mta mla msl mco mhe mso msi msh mce mca mwo mnu mte mwa mke mma mth mtr (a_3) (a_6) (a_9) (a_12) (a_15)  H.size) (cwV 5 hts gq_29 rfl rfl rfl (by decide +kernel) ⟨Nat.le_of_ble_eq_true rfl, Nat.le_of_ble_eq_true rfl⟩) hK hN (hZ.kept hS) hP hD hS hA [0, 1, 8] [2, 3, 4, 5, 6, 7, 9, 10, 11, 12, 13, 14, 15, 16, 17, 18, 19, 20, 21] rfl rfl (by decide) (by decide) (by decide) (va_recv hK hP (ci := 8) (q0 := 0) rfl rfl) rfl hl.1 rfl (Nat.le_of_ble_eq_true rfl) dL_law_371 ⟨Nat.le_of_ble_eq_true rfl, Nat.le_of_ble_eq_true rfl⟩ (fun r_208 u_209 H locs hr_208 hP hD hS => ?_)
    replace hP : va_P D vwCl [(mki, .inl (cI, 8, .inl (fun _ => 0))), (mpa, .inl (cI, 8, .inl (fun _ => 0))), (mta, .inl (cI, 8, .inl (fun _ => 0))), (mla, .inl (cI, 40, .inl (fun _ => 0))), (msl, .inl (cI, 40, .inl (fun _ => 0))), (mco, .inl (cI, 3, .inl (zL3 5 10 50))), (mso, .inl (cI, 8, .inl (fun _ => 0))), (msi, .inl (cI, 8, .inl (fun _ => 0))), (msh, .inl (cI, 8, .inl (fun _ => 0))), (mce, .inl (cJ, 1280, .inr (.inl (fun _ => 0)))), (mca, .inl (cJ, 160, .inr (.inl (fun _ => 0)))), (mwo, .inl (cI, 64, .inl fw_)), (mnu, .inl (cI, 10, .inl fn_)), (mte, .inl (cI, 3, .inl (fun _ => 0))), (mwa, .inl (cI, 130, .inl (fun _ => 0))), (mke, .inl (cI, 130, .inl (fun _ => 0))), (mma, .inl (cI, 3, .inl (fun _ => 0))), (mth, .inl (cI, 3, .inl (fun _ => 0))), (mtr, .inl (cI, 20, .inl (fun _ => 0)))] H := hP
    replace hD : va_D _ [(mki, .inl (cI, 8, .inl (fun _ => 0))), (mpa, .inl (cI, 8, .inl (fun _ => 0))), (mta, .inl (cI, 8, .inl (fun _ => 0))), (mla, .inl (cI, 40, .inl (fun _ => 0))), (msl, .inl (cI, 40, .inl (fun _ => 0))), (mco, .inl (cI, 3, .inl (zL3 5 10 50))), (mso, .inl (cI, 8, .inl (fun _ => 0))), (msi, .inl (cI, 8, .inl (fun _ => 0))), (msh, .inl (cI, 8, .inl (fun _ => 0))), (mce, .inl (cJ, 1280, .inr (.inl (fun _ => 0)))), (mca, .inl (cJ, 160, .inr (.inl (fun _ => 0)))), (mwo, .inl (cI, 64, .inl fw_)), (mnu, .inl (cI, 10, .inl fn_)), (mte, .inl (cI, 3, .inl (fun _ => 0))), (mwa, .inl (cI, 130, .inl (fun _ => 0))), (mke, .inl (cI, 130, .inl (fun _ => 0))), (mma, .inl (cI, 3, .inl (fun _ => 0))), (mth, .inl (cI, 3, .inl (fun _ => 0))), (mtr, .inl (cI, 20, .inl (fun _ => 0)))] := hD
    rcases hr_208 with ⟨rfl, g_210⟩ | ⟨rfl, g_211, g_212⟩ | ⟨rfl, g_213, g_214, g_215⟩ | ⟨rfl, g_216, g_217, g_218, g_219⟩ | ⟨rfl, g_220, g_221, g_222, g_223⟩
    · exfalso; omega
    · refine lv_icmp_eq (tgt := 1371) hx hb dL_law_374 (by decide) (fun c_224 => ?_) (fun c_224 => ?_)
      · refine lv_iinc (v := 6) (lv' := [(3, .int 6), (2, .ref m0), (1, .ref x0), (0, .ref b)]) hx hb dL_law_1371 hl (k := 0) rfl (by decide) (by decide) rfl (fun ls hl => ?_)
        refine lv_goto (tgt := 18) hx hb dL_law_1374 (by decide) ?_
        refine lv_iload_n hx hb dL_law_18 rfl (lv_at hl 0 rfl) ?_
        refine lv_aload_n hx hb dL_law_19 rfl (lv_at hl 3 rfl) ?_
        refine va_slen hx hb hX hbl hbA hS dL_law_20 ?_
        refine lv_topi (fun y_225 ey_225 => ?_)
        obtain rfl : y_225 = 6 := ey_225.trans (by decide)
        refine lv_bipush (v := 6) hx hb dL_law_21 (by decide) ?_
        refine lv_isub hx hb dL_law_23 ?_
        refine lv_topi (fun y_226 ey_226 => ?_)
        obtain rfl : y_226 = 0 := ey_226.trans (by decide)
        refine lv_icmp_gt (tgt := 1377) hx hb dL_law_24 (by decide) (fun c_227 => ?_) (fun c_227 => ?_)
        · refine lv_iconst (v := 1) hx hb dL_law_1377 (by decide) ?_
          refine va_forget (fun q hq => hS.2.2 q hq) ?_
          refine W.widen (k := 600000) (n := 7302250) (Nat.le_of_ble_eq_true rfl) (Nat.le_of_ble_eq_true rfl) ?_
          exact lw_ret hx hb hr hlocks dL_law_1378
        · exact absurd c_227 (by decide)
      · exact absurd c_224 (by decide)
    · exfalso; omega
    · exfalso; omega
    · exfalso; omega
  · refine lv_aload_n hx hb dL_law_345 rfl (lv_at hl 1 rfl) ?_
    refine lv_aload_n hx hb dL_law_346 rfl (lv_at hl 3 rfl) ?_
    refine lv_iload_n hx hb dL_law_347 rfl (lv_at hl 0 rfl) ?_
    refine lv_iconst (v := 1) hx hb dL_law_348 (by decide) ?_
    refine lv_iadd hx hb dL_law_349 ?_
    refine lv_topi (fun y_228 ey_228 => ?_)
    obtain rfl : y_228 = 1 := ey_228.trans (by decide)
    refine va_sld hx hb hX hbl hbA hS (zf_in (by decide) (by decide)) dL_law_350 ?_
    refine lv_topi (fun y_229 ey_229 => ?_)
    obtain rfl : a_3 = y_229 := ea_3.trans ey_229.symm
    refine lv_aload_n hx hb dL_law_351 rfl (lv_at hl 3 rfl) ?_
    refine lv_iload_n hx hb dL_law_352 rfl (lv_at hl 0 rfl) ?_
    refine lv_iconst (v := 2) hx hb dL_law_353 (by decide) ?_
    refine lv_iadd hx hb dL_law_354 ?_
    refine lv_topi (fun y_230 ey_230 => ?_)
    obtain rfl : y_230 = 2 := ey_230.trans (by decide)
    refine va_sld hx hb hX hbl hbA hS (zf_in (by decide) (by decide)) dL_law_355 ?_
    refine lv_topi (fun y_231 ey_231 => ?_)
    obtain rfl : a_6 = y_231 := ea_6.trans ey_231.symm
    refine lv_aload_n hx hb dL_law_356 rfl (lv_at hl 3 rfl) ?_
    refine lv_iload_n hx hb dL_law_357 rfl (lv_at hl 0 rfl) ?_
    refine lv_iconst (v := 3) hx hb dL_law_358 (by decide) ?_
    refine lv_iadd hx hb dL_law_359 ?_
    refine lv_topi (fun y_232 ey_232 => ?_)
    obtain rfl : y_232 = 3 := ey_232.trans (by decide)
    refine va_sld hx hb hX hbl hbA hS (zf_in (by decide) (by decide)) dL_law_360 ?_
    refine lv_topi (fun y_233 ey_233 => ?_)
    obtain rfl : a_9 = y_233 := ea_9.trans ey_233.symm
    refine lv_aload_n hx hb dL_law_361 rfl (lv_at hl 3 rfl) ?_
    refine lv_iload_n hx hb dL_law_362 rfl (lv_at hl 0 rfl) ?_
    refine lv_iconst (v := 4) hx hb dL_law_363 (by decide) ?_
    refine lv_iadd hx hb dL_law_364 ?_
    refine lv_topi (fun y_234 ey_234 => ?_)
    obtain rfl : y_234 = 4 := ey_234.trans (by decide)
    refine va_sld hx hb hX hbl hbA hS (zf_in (by decide) (by decide)) dL_law_365 ?_
    refine lv_topi (fun y_235 ey_235 => ?_)
    obtain rfl : a_12 = y_235 := ea_12.trans ey_235.symm
    refine lv_aload_n hx hb dL_law_366 rfl (lv_at hl 3 rfl) ?_
    refine lv_iload_n hx hb dL_law_367 rfl (lv_at hl 0 rfl) ?_
    refine lv_iconst (v := 5) hx hb dL_law_368 (by decide) ?_
    refine lv_iadd hx hb dL_law_369 ?_
    refine lv_topi (fun y_236 ey_236 => ?_)
    obtain rfl : y_236 = 5 := ey_236.trans (by decide)
    refine va_sld hx hb hX hbl hbA hS (zf_in (by decide) (by decide)) dL_law_370 ?_
    refine lv_topi (fun y_237 ey_237 => ?_)
    obtain rfl : a_15 = y_237 := ea_15.trans ey_237.symm
    skip
    refine zw_V (As := [.int a_3, .int a_6, .int a_9, .int a_12, .int a_15]) (rest := [.int (-1)]) (wr := [(mki, .inl (cI, 8, .inl (fun _ => 0))), (mpa, .inl (cI, 8, .inl (fun _ => 0))), (mta, .inl (cI, 8, .inl (fun _ => 0))), (mla, .inl (cI, 40, .inl (fun _ => 0))), (msl, .inl (cI, 40, .inl (fun _ => 0))), (mco, .inl (cI, 3, .inl (zL3 5 10 50))), (mso, .inl (cI, 8, .inl (fun _ => 0))), (msi, .inl (cI, 8, .inl (fun _ => 0))), (msh, .inl (cI, 8, .inl (fun _ => 0))), (mce, .inl (cJ, 1280, .inr (.inl (fun _ => 0)))), (mca, .inl (cJ, 160, .inr (.inl (fun _ => 0)))), (mwo, .inl (cI, 64, .inl fw_)), (mnu, .inl (cI, 10, .inl fn_)), (mte, .inl (cI, 3, .inl (fun _ => 0))), (mwa, .inl (cI, 130, .inl (fun _ => 0))), (mke, .inl (cI, 130, .inl (fun _ => 0))), (mma, .inl (cI, 3, .inl (fun _ => 0))), (mth, .inl (cI, 3, .inl (fun _ => 0))), (mtr, .inl (cI, 20, .inl (fun _ => 0)))]) ⟨hx, hb, hml, hown, hts⟩ (c_M_copy l D cI cJ cZ cP cS m0 mrf mki mpa mta mla msl mco mhe mso msi msh mce mca mwo mnu mte mwa mke mma mth mtr (a_3) (a_6) (a_9) (a_12) (a_15)  H.size) (cwV 5 hts gq_29 rfl rfl rfl (by decide +kernel) ⟨Nat.le_of_ble_eq_true rfl, Nat.le_of_ble_eq_true rfl⟩) hK hN (hZ.kept hS) hP hD hS hA [0, 1, 8] [2, 3, 4, 5, 6, 7, 9, 10, 11, 12, 13, 14, 15, 16, 17, 18, 19, 20, 21] rfl rfl (by decide) (by decide) (by decide) (va_recv hK hP (ci := 8) (q0 := 0) rfl rfl) rfl hl.1 rfl (Nat.le_of_ble_eq_true rfl) dL_law_371 ⟨Nat.le_of_ble_eq_true rfl, Nat.le_of_ble_eq_true rfl⟩ (fun r_238 u_239 H locs hr_238 hP hD hS => ?_)
    replace hP : va_P D vwCl [(mki, .inl (cI, 8, .inl (fun _ => 0))), (mpa, .inl (cI, 8, .inl (fun _ => 0))), (mta, .inl (cI, 8, .inl (fun _ => 0))), (mla, .inl (cI, 40, .inl (fun _ => 0))), (msl, .inl (cI, 40, .inl (fun _ => 0))), (mco, .inl (cI, 3, .inl (zL3 5 10 50))), (mso, .inl (cI, 8, .inl (fun _ => 0))), (msi, .inl (cI, 8, .inl (fun _ => 0))), (msh, .inl (cI, 8, .inl (fun _ => 0))), (mce, .inl (cJ, 1280, .inr (.inl (fun _ => 0)))), (mca, .inl (cJ, 160, .inr (.inl (fun _ => 0)))), (mwo, .inl (cI, 64, .inl fw_)), (mnu, .inl (cI, 10, .inl fn_)), (mte, .inl (cI, 3, .inl (fun _ => 0))), (mwa, .inl (cI, 130, .inl (fun _ => 0))), (mke, .inl (cI, 130, .inl (fun _ => 0))), (mma, .inl (cI, 3, .inl (fun _ => 0))), (mth, .inl (cI, 3, .inl (fun _ => 0))), (mtr, .inl (cI, 20, .inl (fun _ => 0)))] H := hP
    replace hD : va_D _ [(mki, .inl (cI, 8, .inl (fun _ => 0))), (mpa, .inl (cI, 8, .inl (fun _ => 0))), (mta, .inl (cI, 8, .inl (fun _ => 0))), (mla, .inl (cI, 40, .inl (fun _ => 0))), (msl, .inl (cI, 40, .inl (fun _ => 0))), (mco, .inl (cI, 3, .inl (zL3 5 10 50))), (mso, .inl (cI, 8, .inl (fun _ => 0))), (msi, .inl (cI, 8, .inl (fun _ => 0))), (msh, .inl (cI, 8, .inl (fun _ => 0))), (mce, .inl (cJ, 1280, .inr (.inl (fun _ => 0)))), (mca, .inl (cJ, 160, .inr (.inl (fun _ => 0)))), (mwo, .inl (cI, 64, .inl fw_)), (mnu, .inl (cI, 10, .inl fn_)), (mte, .inl (cI, 3, .inl (fun _ => 0))), (mwa, .inl (cI, 130, .inl (fun _ => 0))), (mke, .inl (cI, 130, .inl (fun _ => 0))), (mma, .inl (cI, 3, .inl (fun _ => 0))), (mth, .inl (cI, 3, .inl (fun _ => 0))), (mtr, .inl (cI, 20, .inl (fun _ => 0)))] := hD
    rcases hr_238 with ⟨rfl, g_240⟩ | ⟨rfl, g_241, g_242⟩ | ⟨rfl, g_243, g_244, g_245⟩ | ⟨rfl, g_246, g_247, g_248, g_249⟩ | ⟨rfl, g_250, g_251, g_252, g_253⟩
    · exfalso; omega
    · exfalso; omega
    · refine lv_icmp_eq (tgt := 1371) hx hb dL_law_374 (by decide) (fun c_254 => ?_) (fun c_254 => ?_)
      · refine lv_iinc (v := 6) (lv' := [(3, .int 6), (2, .ref m0), (1, .ref x0), (0, .ref b)]) hx hb dL_law_1371 hl (k := 0) rfl (by decide) (by decide) rfl (fun ls hl => ?_)
        refine lv_goto (tgt := 18) hx hb dL_law_1374 (by decide) ?_
        refine lv_iload_n hx hb dL_law_18 rfl (lv_at hl 0 rfl) ?_
        refine lv_aload_n hx hb dL_law_19 rfl (lv_at hl 3 rfl) ?_
        refine va_slen hx hb hX hbl hbA hS dL_law_20 ?_
        refine lv_topi (fun y_255 ey_255 => ?_)
        obtain rfl : y_255 = 6 := ey_255.trans (by decide)
        refine lv_bipush (v := 6) hx hb dL_law_21 (by decide) ?_
        refine lv_isub hx hb dL_law_23 ?_
        refine lv_topi (fun y_256 ey_256 => ?_)
        obtain rfl : y_256 = 0 := ey_256.trans (by decide)
        refine lv_icmp_gt (tgt := 1377) hx hb dL_law_24 (by decide) (fun c_257 => ?_) (fun c_257 => ?_)
        · refine lv_iconst (v := 1) hx hb dL_law_1377 (by decide) ?_
          refine va_forget (fun q hq => hS.2.2 q hq) ?_
          refine W.widen (k := 600000) (n := 7302250) (Nat.le_of_ble_eq_true rfl) (Nat.le_of_ble_eq_true rfl) ?_
          exact lw_ret hx hb hr hlocks dL_law_1378
        · exact absurd c_257 (by decide)
      · exact absurd c_254 (by decide)
    · exfalso; omega
    · exfalso; omega
  · refine lv_aload_n hx hb dL_law_345 rfl (lv_at hl 1 rfl) ?_
    refine lv_aload_n hx hb dL_law_346 rfl (lv_at hl 3 rfl) ?_
    refine lv_iload_n hx hb dL_law_347 rfl (lv_at hl 0 rfl) ?_
    refine lv_iconst (v := 1) hx hb dL_law_348 (by decide) ?_
    refine lv_iadd hx hb dL_law_349 ?_
    refine lv_topi (fun y_258 ey_258 => ?_)
    obtain rfl : y_258 = 1 := ey_258.trans (by decide)
    refine va_sld hx hb hX hbl hbA hS (zf_in (by decide) (by decide)) dL_law_350 ?_
    refine lv_topi (fun y_259 ey_259 => ?_)
    obtain rfl : a_3 = y_259 := ea_3.trans ey_259.symm
    refine lv_aload_n hx hb dL_law_351 rfl (lv_at hl 3 rfl) ?_
    refine lv_iload_n hx hb dL_law_352 rfl (lv_at hl 0 rfl) ?_
    refine lv_iconst (v := 2) hx hb dL_law_353 (by decide) ?_
    refine lv_iadd hx hb dL_law_354 ?_
    refine lv_topi (fun y_260 ey_260 => ?_)
    obtain rfl : y_260 = 2 := ey_260.trans (by decide)
    refine va_sld hx hb hX hbl hbA hS (zf_in (by decide) (by decide)) dL_law_355 ?_
    refine lv_topi (fun y_261 ey_261 => ?_)
    obtain rfl : a_6 = y_261 := ea_6.trans ey_261.symm
    refine lv_aload_n hx hb dL_law_356 rfl (lv_at hl 3 rfl) ?_
    refine lv_iload_n hx hb dL_law_357 rfl (lv_at hl 0 rfl) ?_
    refine lv_iconst (v := 3) hx hb dL_law_358 (by decide) ?_
    refine lv_iadd hx hb dL_law_359 ?_
    refine lv_topi (fun y_262 ey_262 => ?_)
    obtain rfl : y_262 = 3 := ey_262.trans (by decide)
    refine va_sld hx hb hX hbl hbA hS (zf_in (by decide) (by decide)) dL_law_360 ?_
    refine lv_topi (fun y_263 ey_263 => ?_)
    obtain rfl : a_9 = y_263 := ea_9.trans ey_263.symm
    refine lv_aload_n hx hb dL_law_361 rfl (lv_at hl 3 rfl) ?_
    refine lv_iload_n hx hb dL_law_362 rfl (lv_at hl 0 rfl) ?_
    refine lv_iconst (v := 4) hx hb dL_law_363 (by decide) ?_
    refine lv_iadd hx hb dL_law_364 ?_
    refine lv_topi (fun y_264 ey_264 => ?_)
    obtain rfl : y_264 = 4 := ey_264.trans (by decide)
    refine va_sld hx hb hX hbl hbA hS (zf_in (by decide) (by decide)) dL_law_365 ?_
    refine lv_topi (fun y_265 ey_265 => ?_)
    obtain rfl : a_12 = y_265 := ea_12.trans ey_265.symm
    refine lv_aload_n hx hb dL_law_366 rfl (lv_at hl 3 rfl) ?_
    refine lv_iload_n hx hb dL_law_367 rfl (lv_at hl 0 rfl) ?_
    refine lv_iconst (v := 5) hx hb dL_law_368 (by decide) ?_
    refine lv_iadd hx hb dL_law_369 ?_
    refine lv_topi (fun y_266 ey_266 => ?_)
    obtain rfl : y_266 = 5 := ey_266.trans (by decide)
    refine va_sld hx hb hX hbl hbA hS (zf_in (by decide) (by decide)) dL_law_370 ?_
    refine lv_topi (fun y_267 ey_267 => ?_)
    obtain rfl : a_15 = y_267 := ea_15.trans ey_267.symm
    skip
    refine zw_V (As := [.int a_3, .int a_6, .int a_9, .int a_12, .int a_15]) (rest := [.int (-1)]) (wr := [(mki, .inl (cI, 8, .inl (fun _ => 0))), (mpa, .inl (cI, 8, .inl (fun _ => 0))), (mta, .inl (cI, 8, .inl (fun _ => 0))), (mla, .inl (cI, 40, .inl (fun _ => 0))), (msl, .inl (cI, 40, .inl (fun _ => 0))), (mco, .inl (cI, 3, .inl (zL3 5 10 50))), (mso, .inl (cI, 8, .inl (fun _ => 0))), (msi, .inl (cI, 8, .inl (fun _ => 0))), (msh, .inl (cI, 8, .inl (fun _ => 0))), (mce, .inl (cJ, 1280, .inr (.inl (fun _ => 0)))), (mca, .inl (cJ, 160, .inr (.inl (fun _ => 0)))), (mwo, .inl (cI, 64, .inl fw_)), (mnu, .inl (cI, 10, .inl fn_)), (mte, .inl (cI, 3, .inl (fun _ => 0))), (mwa, .inl (cI, 130, .inl (fun _ => 0))), (mke, .inl (cI, 130, .inl (fun _ => 0))), (mma, .inl (cI, 3, .inl (fun _ => 0))), (mth, .inl (cI, 3, .inl (fun _ => 0))), (mtr, .inl (cI, 20, .inl (fun _ => 0)))]) ⟨hx, hb, hml, hown, hts⟩ (c_M_copy l D cI cJ cZ cP cS m0 mrf mki mpa mta mla msl mco mhe mso msi msh mce mca mwo mnu mte mwa mke mma mth mtr (a_3) (a_6) (a_9) (a_12) (a_15)  H.size) (cwV 5 hts gq_29 rfl rfl rfl (by decide +kernel) ⟨Nat.le_of_ble_eq_true rfl, Nat.le_of_ble_eq_true rfl⟩) hK hN (hZ.kept hS) hP hD hS hA [0, 1, 8] [2, 3, 4, 5, 6, 7, 9, 10, 11, 12, 13, 14, 15, 16, 17, 18, 19, 20, 21] rfl rfl (by decide) (by decide) (by decide) (va_recv hK hP (ci := 8) (q0 := 0) rfl rfl) rfl hl.1 rfl (Nat.le_of_ble_eq_true rfl) dL_law_371 ⟨Nat.le_of_ble_eq_true rfl, Nat.le_of_ble_eq_true rfl⟩ (fun r_268 u_269 H locs hr_268 hP hD hS => ?_)
    replace hP : va_P D vwCl [(mki, .inl (cI, 8, .inl (fun _ => 0))), (mpa, .inl (cI, 8, .inl (fun _ => 0))), (mta, .inl (cI, 8, .inl (fun _ => 0))), (mla, .inl (cI, 40, .inl (fun _ => 0))), (msl, .inl (cI, 40, .inl (fun _ => 0))), (mco, .inl (cI, 3, .inl (zL3 5 10 50))), (mso, .inl (cI, 8, .inl (fun _ => 0))), (msi, .inl (cI, 8, .inl (fun _ => 0))), (msh, .inl (cI, 8, .inl (fun _ => 0))), (mce, .inl (cJ, 1280, .inr (.inl (fun _ => 0)))), (mca, .inl (cJ, 160, .inr (.inl (fun _ => 0)))), (mwo, .inl (cI, 64, .inl fw_)), (mnu, .inl (cI, 10, .inl fn_)), (mte, .inl (cI, 3, .inl (fun _ => 0))), (mwa, .inl (cI, 130, .inl (fun _ => 0))), (mke, .inl (cI, 130, .inl (fun _ => 0))), (mma, .inl (cI, 3, .inl (fun _ => 0))), (mth, .inl (cI, 3, .inl (fun _ => 0))), (mtr, .inl (cI, 20, .inl (fun _ => 0)))] H := hP
    replace hD : va_D _ [(mki, .inl (cI, 8, .inl (fun _ => 0))), (mpa, .inl (cI, 8, .inl (fun _ => 0))), (mta, .inl (cI, 8, .inl (fun _ => 0))), (mla, .inl (cI, 40, .inl (fun _ => 0))), (msl, .inl (cI, 40, .inl (fun _ => 0))), (mco, .inl (cI, 3, .inl (zL3 5 10 50))), (mso, .inl (cI, 8, .inl (fun _ => 0))), (msi, .inl (cI, 8, .inl (fun _ => 0))), (msh, .inl (cI, 8, .inl (fun _ => 0))), (mce, .inl (cJ, 1280, .inr (.inl (fun _ => 0)))), (mca, .inl (cJ, 160, .inr (.inl (fun _ => 0)))), (mwo, .inl (cI, 64, .inl fw_)), (mnu, .inl (cI, 10, .inl fn_)), (mte, .inl (cI, 3, .inl (fun _ => 0))), (mwa, .inl (cI, 130, .inl (fun _ => 0))), (mke, .inl (cI, 130, .inl (fun _ => 0))), (mma, .inl (cI, 3, .inl (fun _ => 0))), (mth, .inl (cI, 3, .inl (fun _ => 0))), (mtr, .inl (cI, 20, .inl (fun _ => 0)))] := hD
    rcases hr_268 with ⟨rfl, g_270⟩ | ⟨rfl, g_271, g_272⟩ | ⟨rfl, g_273, g_274, g_275⟩ | ⟨rfl, g_276, g_277, g_278, g_279⟩ | ⟨rfl, g_280, g_281, g_282, g_283⟩
    · exfalso; omega
    · exfalso; omega
    · exfalso; omega
    · refine lv_icmp_eq (tgt := 1371) hx hb dL_law_374 (by decide) (fun c_284 => ?_) (fun c_284 => ?_)
      · refine lv_iinc (v := 6) (lv' := [(3, .int 6), (2, .ref m0), (1, .ref x0), (0, .ref b)]) hx hb dL_law_1371 hl (k := 0) rfl (by decide) (by decide) rfl (fun ls hl => ?_)
        refine lv_goto (tgt := 18) hx hb dL_law_1374 (by decide) ?_
        refine lv_iload_n hx hb dL_law_18 rfl (lv_at hl 0 rfl) ?_
        refine lv_aload_n hx hb dL_law_19 rfl (lv_at hl 3 rfl) ?_
        refine va_slen hx hb hX hbl hbA hS dL_law_20 ?_
        refine lv_topi (fun y_285 ey_285 => ?_)
        obtain rfl : y_285 = 6 := ey_285.trans (by decide)
        refine lv_bipush (v := 6) hx hb dL_law_21 (by decide) ?_
        refine lv_isub hx hb dL_law_23 ?_
        refine lv_topi (fun y_286 ey_286 => ?_)
        obtain rfl : y_286 = 0 := ey_286.trans (by decide)
        refine lv_icmp_gt (tgt := 1377) hx hb dL_law_24 (by decide) (fun c_287 => ?_) (fun c_287 => ?_)
        · refine lv_iconst (v := 1) hx hb dL_law_1377 (by decide) ?_
          refine va_forget (fun q hq => hS.2.2 q hq) ?_
          refine W.widen (k := 600000) (n := 7302250) (Nat.le_of_ble_eq_true rfl) (Nat.le_of_ble_eq_true rfl) ?_
          exact lw_ret hx hb hr hlocks dL_law_1378
        · exact absurd c_287 (by decide)
      · exact absurd c_284 (by decide)
    · exfalso; omega
  · refine lv_aload_n hx hb dL_law_345 rfl (lv_at hl 1 rfl) ?_
    refine lv_aload_n hx hb dL_law_346 rfl (lv_at hl 3 rfl) ?_
    refine lv_iload_n hx hb dL_law_347 rfl (lv_at hl 0 rfl) ?_
    refine lv_iconst (v := 1) hx hb dL_law_348 (by decide) ?_
    refine lv_iadd hx hb dL_law_349 ?_
    refine lv_topi (fun y_288 ey_288 => ?_)
    obtain rfl : y_288 = 1 := ey_288.trans (by decide)
    refine va_sld hx hb hX hbl hbA hS (zf_in (by decide) (by decide)) dL_law_350 ?_
    refine lv_topi (fun y_289 ey_289 => ?_)
    obtain rfl : a_3 = y_289 := ea_3.trans ey_289.symm
    refine lv_aload_n hx hb dL_law_351 rfl (lv_at hl 3 rfl) ?_
    refine lv_iload_n hx hb dL_law_352 rfl (lv_at hl 0 rfl) ?_
    refine lv_iconst (v := 2) hx hb dL_law_353 (by decide) ?_
    refine lv_iadd hx hb dL_law_354 ?_
    refine lv_topi (fun y_290 ey_290 => ?_)
    obtain rfl : y_290 = 2 := ey_290.trans (by decide)
    refine va_sld hx hb hX hbl hbA hS (zf_in (by decide) (by decide)) dL_law_355 ?_
    refine lv_topi (fun y_291 ey_291 => ?_)
    obtain rfl : a_6 = y_291 := ea_6.trans ey_291.symm
    refine lv_aload_n hx hb dL_law_356 rfl (lv_at hl 3 rfl) ?_
    refine lv_iload_n hx hb dL_law_357 rfl (lv_at hl 0 rfl) ?_
    refine lv_iconst (v := 3) hx hb dL_law_358 (by decide) ?_
    refine lv_iadd hx hb dL_law_359 ?_
    refine lv_topi (fun y_292 ey_292 => ?_)
    obtain rfl : y_292 = 3 := ey_292.trans (by decide)
    refine va_sld hx hb hX hbl hbA hS (zf_in (by decide) (by decide)) dL_law_360 ?_
    refine lv_topi (fun y_293 ey_293 => ?_)
    obtain rfl : a_9 = y_293 := ea_9.trans ey_293.symm
    refine lv_aload_n hx hb dL_law_361 rfl (lv_at hl 3 rfl) ?_
    refine lv_iload_n hx hb dL_law_362 rfl (lv_at hl 0 rfl) ?_
    refine lv_iconst (v := 4) hx hb dL_law_363 (by decide) ?_
    refine lv_iadd hx hb dL_law_364 ?_
    refine lv_topi (fun y_294 ey_294 => ?_)
    obtain rfl : y_294 = 4 := ey_294.trans (by decide)
    refine va_sld hx hb hX hbl hbA hS (zf_in (by decide) (by decide)) dL_law_365 ?_
    refine lv_topi (fun y_295 ey_295 => ?_)
    obtain rfl : a_12 = y_295 := ea_12.trans ey_295.symm
    refine lv_aload_n hx hb dL_law_366 rfl (lv_at hl 3 rfl) ?_
    refine lv_iload_n hx hb dL_law_367 rfl (lv_at hl 0 rfl) ?_
    refine lv_iconst (v := 5) hx hb dL_law_368 (by decide) ?_
    refine lv_iadd hx hb dL_law_369 ?_
    refine lv_topi (fun y_296 ey_296 => ?_)
    obtain rfl : y_296 = 5 := ey_296.trans (by decide)
    refine va_sld hx hb hX hbl hbA hS (zf_in (by decide) (by decide)) dL_law_370 ?_
    refine lv_topi (fun y_297 ey_297 => ?_)
    obtain rfl : a_15 = y_297 := ea_15.trans ey_297.symm
    skip
    refine zw_V (As := [.int a_3, .int a_6, .int a_9, .int a_12, .int a_15]) (rest := [.int (-3)]) (wr := [(mki, .inl (cI, 8, .inl (fun _ => 0))), (mpa, .inl (cI, 8, .inl (fun _ => 0))), (mta, .inl (cI, 8, .inl (fun _ => 0))), (mla, .inl (cI, 40, .inl (fun _ => 0))), (msl, .inl (cI, 40, .inl (fun _ => 0))), (mco, .inl (cI, 3, .inl (zL3 5 10 50))), (mso, .inl (cI, 8, .inl (fun _ => 0))), (msi, .inl (cI, 8, .inl (fun _ => 0))), (msh, .inl (cI, 8, .inl (fun _ => 0))), (mce, .inl (cJ, 1280, .inr (.inl (fun _ => 0)))), (mca, .inl (cJ, 160, .inr (.inl (fun _ => 0)))), (mwo, .inl (cI, 64, .inl fw_)), (mnu, .inl (cI, 10, .inl fn_)), (mte, .inl (cI, 3, .inl (fun _ => 0))), (mwa, .inl (cI, 130, .inl (fun _ => 0))), (mke, .inl (cI, 130, .inl (fun _ => 0))), (mma, .inl (cI, 3, .inl (fun _ => 0))), (mth, .inl (cI, 3, .inl (fun _ => 0))), (mtr, .inl (cI, 20, .inl (fun _ => 0)))]) ⟨hx, hb, hml, hown, hts⟩ (c_M_copy l D cI cJ cZ cP cS m0 mrf mki mpa mta mla msl mco mhe mso msi msh mce mca mwo mnu mte mwa mke mma mth mtr (a_3) (a_6) (a_9) (a_12) (a_15)  H.size) (cwV 5 hts gq_29 rfl rfl rfl (by decide +kernel) ⟨Nat.le_of_ble_eq_true rfl, Nat.le_of_ble_eq_true rfl⟩) hK hN (hZ.kept hS) hP hD hS hA [0, 1, 8] [2, 3, 4, 5, 6, 7, 9, 10, 11, 12, 13, 14, 15, 16, 17, 18, 19, 20, 21] rfl rfl (by decide) (by decide) (by decide) (va_recv hK hP (ci := 8) (q0 := 0) rfl rfl) rfl hl.1 rfl (Nat.le_of_ble_eq_true rfl) dL_law_371 ⟨Nat.le_of_ble_eq_true rfl, Nat.le_of_ble_eq_true rfl⟩ (fun r_298 u_299 H locs hr_298 hP hD hS => ?_)
    replace hP : va_P D vwCl [(mki, .inl (cI, 8, .inl (fun _ => 0))), (mpa, .inl (cI, 8, .inl (fun _ => 0))), (mta, .inl (cI, 8, .inl (fun _ => 0))), (mla, .inl (cI, 40, .inl (fun _ => 0))), (msl, .inl (cI, 40, .inl (fun _ => 0))), (mco, .inl (cI, 3, .inl (zL3 5 10 50))), (mso, .inl (cI, 8, .inl (fun _ => 0))), (msi, .inl (cI, 8, .inl (fun _ => 0))), (msh, .inl (cI, 8, .inl (fun _ => 0))), (mce, .inl (cJ, 1280, .inr (.inl (fun _ => 0)))), (mca, .inl (cJ, 160, .inr (.inl (fun _ => 0)))), (mwo, .inl (cI, 64, .inl fw_)), (mnu, .inl (cI, 10, .inl fn_)), (mte, .inl (cI, 3, .inl (fun _ => 0))), (mwa, .inl (cI, 130, .inl (fun _ => 0))), (mke, .inl (cI, 130, .inl (fun _ => 0))), (mma, .inl (cI, 3, .inl (fun _ => 0))), (mth, .inl (cI, 3, .inl (fun _ => 0))), (mtr, .inl (cI, 20, .inl (fun _ => 0)))] H := hP
    replace hD : va_D _ [(mki, .inl (cI, 8, .inl (fun _ => 0))), (mpa, .inl (cI, 8, .inl (fun _ => 0))), (mta, .inl (cI, 8, .inl (fun _ => 0))), (mla, .inl (cI, 40, .inl (fun _ => 0))), (msl, .inl (cI, 40, .inl (fun _ => 0))), (mco, .inl (cI, 3, .inl (zL3 5 10 50))), (mso, .inl (cI, 8, .inl (fun _ => 0))), (msi, .inl (cI, 8, .inl (fun _ => 0))), (msh, .inl (cI, 8, .inl (fun _ => 0))), (mce, .inl (cJ, 1280, .inr (.inl (fun _ => 0)))), (mca, .inl (cJ, 160, .inr (.inl (fun _ => 0)))), (mwo, .inl (cI, 64, .inl fw_)), (mnu, .inl (cI, 10, .inl fn_)), (mte, .inl (cI, 3, .inl (fun _ => 0))), (mwa, .inl (cI, 130, .inl (fun _ => 0))), (mke, .inl (cI, 130, .inl (fun _ => 0))), (mma, .inl (cI, 3, .inl (fun _ => 0))), (mth, .inl (cI, 3, .inl (fun _ => 0))), (mtr, .inl (cI, 20, .inl (fun _ => 0)))] := hD
    rcases hr_298 with ⟨rfl, g_300⟩ | ⟨rfl, g_301, g_302⟩ | ⟨rfl, g_303, g_304, g_305⟩ | ⟨rfl, g_306, g_307, g_308, g_309⟩ | ⟨rfl, g_310, g_311, g_312, g_313⟩
    · exfalso; omega
    · exfalso; omega
    · exfalso; omega
    · exfalso; omega
    · refine lv_icmp_eq (tgt := 1371) hx hb dL_law_374 (by decide) (fun c_314 => ?_) (fun c_314 => ?_)
      · refine lv_iinc (v := 6) (lv' := [(3, .int 6), (2, .ref m0), (1, .ref x0), (0, .ref b)]) hx hb dL_law_1371 hl (k := 0) rfl (by decide) (by decide) rfl (fun ls hl => ?_)
        refine lv_goto (tgt := 18) hx hb dL_law_1374 (by decide) ?_
        refine lv_iload_n hx hb dL_law_18 rfl (lv_at hl 0 rfl) ?_
        refine lv_aload_n hx hb dL_law_19 rfl (lv_at hl 3 rfl) ?_
        refine va_slen hx hb hX hbl hbA hS dL_law_20 ?_
        refine lv_topi (fun y_315 ey_315 => ?_)
        obtain rfl : y_315 = 6 := ey_315.trans (by decide)
        refine lv_bipush (v := 6) hx hb dL_law_21 (by decide) ?_
        refine lv_isub hx hb dL_law_23 ?_
        refine lv_topi (fun y_316 ey_316 => ?_)
        obtain rfl : y_316 = 0 := ey_316.trans (by decide)
        refine lv_icmp_gt (tgt := 1377) hx hb dL_law_24 (by decide) (fun c_317 => ?_) (fun c_317 => ?_)
        · refine lv_iconst (v := 1) hx hb dL_law_1377 (by decide) ?_
          refine va_forget (fun q hq => hS.2.2 q hq) ?_
          refine W.widen (k := 600000) (n := 7302250) (Nat.le_of_ble_eq_true rfl) (Nat.le_of_ble_eq_true rfl) ?_
          exact lw_ret hx hb hr hlocks dL_law_1378
        · exact absurd c_317 (by decide)
      · exact absurd c_314 (by decide)
set_option maxHeartbeats 8000000 in
set_option maxRecDepth 100000 in
theorem law_case_3 {p : Program} {l : Launch} {e : Env} {s : State} {m : MethodId} {below : List Frame} {meth : Method} {c : Code} {D : va_G} {cI cJ cZ cP cS : ClassId} {b : Nat} {xs_ : Nat → Int32} (x0 xs j0 k0 w0 rd mv xr z0 jp jc zl zs kz kp kc kzl kzs wk wl wc wp ri rl mb m0 mrf mki mpa mta mla msl mco mhe mso msi msh mce mca mwo mnu mte mwa mke mma mth mtr : Nat) (sh el : Nat → Nat) (fw_ fn_ : Nat → Int32) (C0 : lw_At p s m meth c b 6 xs_) (hK : va_K D vwCl (zKT cI cJ cZ cP cS) s) (hN : zN s) (hZ : zSt (fun q : Nat => s.heap.size ≤ q) s s.heap) (H : Heap) (locs : List Loc) (hP : va_P D vwCl (zLW cI cJ cZ cP cS x0 xs j0 k0 w0 rd mv xr z0 jp jc zl zs kz kp kc kzl kzs wk wl wc wp ri rl mb m0 mrf mki mpa mta mla msl mco mhe mso msi msh mce mca mwo mnu mte mwa mke mma mth mtr sh el fw_ fn_) H) (hD : va_D (fun q : Nat => s.heap.size ≤ q) (zLW cI cJ cZ cP cS x0 xs j0 k0 w0 rd mv xr z0 jp jc zl zs kz kp kc kzl kzs wk wl wc wp ri rl mb m0 mrf mki mpa mta mla msl mco mhe mso msi msh mce mca mwo mnu mte mwa mke mma mth mtr sh el fw_ fn_)) (hS : va_S (fun q : Nat => s.heap.size ≤ q) s.heap H locs) (ls : Array Slot) (hl : lv_has ls 4 [(3, .int 0), (2, .ref m0), (1, .ref x0), (0, .ref b)]) : W p l e room_1 s m #[Value.ref b] below meth c H locs 100 10000 (lw_Z below #[Value.ref b] s) (F0 m 379 ls []) := by
  obtain ⟨hx, hb, hr, hml, hown0, hts, hX, hbl, hlocks, hgv⟩ := id C0
  have hown : s.vm.findClass RL = some m.cls := hown0
  have hA : ∀ q : Nat, s.heap.size ≤ q → (fun q : Nat => s.heap.size ≤ q) q := fun _ h => h
  have hbA : ¬ (fun q : Nat => s.heap.size ≤ q) b := Nat.not_le.mpr hbl
  replace hP : va_P D vwCl ((x0, .inr (7, [.ref xs, .ref j0, .ref k0, .ref w0, .ref rd, .ref mv, .ref xr, .int 0, .int (-1)])) :: (xs, .inl (cS, 8, .inr (.inr (.inr (.inr (zS sh)))))) :: (j0, .inr (0, [.ref z0, .ref jp, .ref jc, .int 0, .int 0, .int 0, .int 60, .int 0, .int 1])) :: (z0, .inr (6, [.ref zl, .ref zs, .int 20, .int 0, .int 3])) :: (zl, .inl (cZ, 40, .inl (fun _ => 0))) :: (zs, .inl (cI, 40, .inl (fun _ => 0))) :: (jp, .inl (cP, 8, .inr (.inr (.inr (.inr (fun _ => none)))))) :: (jc, .inl (cI, 3, .inl (zL3 5 10 50))) :: (k0, .inr (0, [.ref kz, .ref kp, .ref kc, .int 0, .int 0, .int 0, .int 60, .int 0, .int 1])) :: (kz, .inr (6, [.ref kzl, .ref kzs, .int 20, .int 0, .int 3])) :: (kzl, .inl (cZ, 40, .inl (fun _ => 0))) :: (kzs, .inl (cI, 40, .inl (fun _ => 0))) :: (kp, .inl (cP, 8, .inr (.inr (.inr (.inr (fun _ => none)))))) :: (kc, .inl (cI, 3, .inl (zL3 5 10 50))) :: (w0, .inr (5, [.ref wk, .ref wl, .ref wc, .ref wp, .int 0, .int 0, .int 0])) :: (wk, .inl (cI, 125, .inl (fun _ => 0))) :: (wl, .inl (cI, 125, .inl (fun _ => 0))) :: (wc, .inl (cI, 3, .inl (fun _ => 0))) :: (wp, .inl (cP, 8, .inr (.inr (.inr (.inr (fun _ => none)))))) :: (rd, .inr (3, [.ref ri, .ref rl, .int 0, .int 0, .int 0, .int (-1), .int 0, .int 0])) :: (ri, .inl (cI, 132, .inl (fun _ => 0))) :: (rl, .inl (cI, 160, .inl (fun _ => 0))) :: (mv, .inr (1, [.ref mb, .int 0, .int 0, .int 0, .int 0])) :: (mb, .inl (cI, 20, .inl (fun _ => 0))) :: (xr, .inl (cI, 8, .inl (fun _ => 0))) :: ((sh 0), .inr (4, [.ref (el 0), .int (-1), .int 0])) :: ((el 0), .inl (cJ, 160, .inr (.inl (fun _ => 0)))) :: ((sh 1), .inr (4, [.ref (el 1), .int (-1), .int 0])) :: ((el 1), .inl (cJ, 160, .inr (.inl (fun _ => 0)))) :: ((sh 2), .inr (4, [.ref (el 2), .int (-1), .int 0])) :: ((el 2), .inl (cJ, 160, .inr (.inl (fun _ => 0)))) :: ((sh 3), .inr (4, [.ref (el 3), .int (-1), .int 0])) :: ((el 3), .inl (cJ, 160, .inr (.inl (fun _ => 0)))) :: ((sh 4), .inr (4, [.ref (el 4), .int (-1), .int 0])) :: ((el 4), .inl (cJ, 160, .inr (.inl (fun _ => 0)))) :: ((sh 5), .inr (4, [.ref (el 5), .int (-1), .int 0])) :: ((el 5), .inl (cJ, 160, .inr (.inl (fun _ => 0)))) :: ((sh 6), .inr (4, [.ref (el 6), .int (-1), .int 0])) :: ((el 6), .inl (cJ, 160, .inr (.inl (fun _ => 0)))) :: ((sh 7), .inr (4, [.ref (el 7), .int (-1), .int 0])) :: ((el 7), .inl (cJ, 160, .inr (.inl (fun _ => 0)))) :: (m0, .inr (8, (.int 0 :: .int 20 :: .int 0 :: .int 0 :: .int 0 :: .int 60 :: .int 0 :: .int 3 :: .int 1 :: .int (-1) :: .ref mrf :: .ref mki :: .ref mpa :: .ref mta :: .ref mla :: .ref msl :: .ref mco :: .ref mhe :: .ref mso :: .ref msi :: .ref msh :: .ref mce :: .ref mca :: .ref mwo :: .ref mnu :: .ref mte :: .int 0 :: .int 0 :: .int 0 :: .int 0 :: .int 0 :: .ref mwa :: .ref mke :: .ref mma :: .ref mth :: .ref mtr :: .int 0 :: .int 0 :: []))) :: (mrf, .inl (cI, 8, .inl (fun _ => 0))) :: (mki, .inl (cI, 8, .inl (fun _ => 0))) :: (mpa, .inl (cI, 8, .inl (fun _ => 0))) :: (mta, .inl (cI, 8, .inl (fun _ => 0))) :: (mla, .inl (cI, 40, .inl (fun _ => 0))) :: (msl, .inl (cI, 40, .inl (fun _ => 0))) :: (mco, .inl (cI, 3, .inl (zL3 5 10 50))) :: (mhe, .inl (cI, 8, .inl (fun _ => 0))) :: (mso, .inl (cI, 8, .inl (fun _ => 0))) :: (msi, .inl (cI, 8, .inl (fun _ => 0))) :: (msh, .inl (cI, 8, .inl (fun _ => 0))) :: (mce, .inl (cJ, 1280, .inr (.inl (fun _ => 0)))) :: (mca, .inl (cJ, 160, .inr (.inl (fun _ => 0)))) :: (mwo, .inl (cI, 64, .inl fw_)) :: (mnu, .inl (cI, 10, .inl fn_)) :: (mte, .inl (cI, 3, .inl (fun _ => 0))) :: (mwa, .inl (cI, 130, .inl (fun _ => 0))) :: (mke, .inl (cI, 130, .inl (fun _ => 0))) :: (mma, .inl (cI, 3, .inl (fun _ => 0))) :: (mth, .inl (cI, 3, .inl (fun _ => 0))) :: (mtr, .inl (cI, 20, .inl (fun _ => 0))) :: []) H := hP
  replace hD : va_D _ ((x0, .inr (7, [.ref xs, .ref j0, .ref k0, .ref w0, .ref rd, .ref mv, .ref xr, .int 0, .int (-1)])) :: (xs, .inl (cS, 8, .inr (.inr (.inr (.inr (zS sh)))))) :: (j0, .inr (0, [.ref z0, .ref jp, .ref jc, .int 0, .int 0, .int 0, .int 60, .int 0, .int 1])) :: (z0, .inr (6, [.ref zl, .ref zs, .int 20, .int 0, .int 3])) :: (zl, .inl (cZ, 40, .inl (fun _ => 0))) :: (zs, .inl (cI, 40, .inl (fun _ => 0))) :: (jp, .inl (cP, 8, .inr (.inr (.inr (.inr (fun _ => none)))))) :: (jc, .inl (cI, 3, .inl (zL3 5 10 50))) :: (k0, .inr (0, [.ref kz, .ref kp, .ref kc, .int 0, .int 0, .int 0, .int 60, .int 0, .int 1])) :: (kz, .inr (6, [.ref kzl, .ref kzs, .int 20, .int 0, .int 3])) :: (kzl, .inl (cZ, 40, .inl (fun _ => 0))) :: (kzs, .inl (cI, 40, .inl (fun _ => 0))) :: (kp, .inl (cP, 8, .inr (.inr (.inr (.inr (fun _ => none)))))) :: (kc, .inl (cI, 3, .inl (zL3 5 10 50))) :: (w0, .inr (5, [.ref wk, .ref wl, .ref wc, .ref wp, .int 0, .int 0, .int 0])) :: (wk, .inl (cI, 125, .inl (fun _ => 0))) :: (wl, .inl (cI, 125, .inl (fun _ => 0))) :: (wc, .inl (cI, 3, .inl (fun _ => 0))) :: (wp, .inl (cP, 8, .inr (.inr (.inr (.inr (fun _ => none)))))) :: (rd, .inr (3, [.ref ri, .ref rl, .int 0, .int 0, .int 0, .int (-1), .int 0, .int 0])) :: (ri, .inl (cI, 132, .inl (fun _ => 0))) :: (rl, .inl (cI, 160, .inl (fun _ => 0))) :: (mv, .inr (1, [.ref mb, .int 0, .int 0, .int 0, .int 0])) :: (mb, .inl (cI, 20, .inl (fun _ => 0))) :: (xr, .inl (cI, 8, .inl (fun _ => 0))) :: ((sh 0), .inr (4, [.ref (el 0), .int (-1), .int 0])) :: ((el 0), .inl (cJ, 160, .inr (.inl (fun _ => 0)))) :: ((sh 1), .inr (4, [.ref (el 1), .int (-1), .int 0])) :: ((el 1), .inl (cJ, 160, .inr (.inl (fun _ => 0)))) :: ((sh 2), .inr (4, [.ref (el 2), .int (-1), .int 0])) :: ((el 2), .inl (cJ, 160, .inr (.inl (fun _ => 0)))) :: ((sh 3), .inr (4, [.ref (el 3), .int (-1), .int 0])) :: ((el 3), .inl (cJ, 160, .inr (.inl (fun _ => 0)))) :: ((sh 4), .inr (4, [.ref (el 4), .int (-1), .int 0])) :: ((el 4), .inl (cJ, 160, .inr (.inl (fun _ => 0)))) :: ((sh 5), .inr (4, [.ref (el 5), .int (-1), .int 0])) :: ((el 5), .inl (cJ, 160, .inr (.inl (fun _ => 0)))) :: ((sh 6), .inr (4, [.ref (el 6), .int (-1), .int 0])) :: ((el 6), .inl (cJ, 160, .inr (.inl (fun _ => 0)))) :: ((sh 7), .inr (4, [.ref (el 7), .int (-1), .int 0])) :: ((el 7), .inl (cJ, 160, .inr (.inl (fun _ => 0)))) :: (m0, .inr (8, (.int 0 :: .int 20 :: .int 0 :: .int 0 :: .int 0 :: .int 60 :: .int 0 :: .int 3 :: .int 1 :: .int (-1) :: .ref mrf :: .ref mki :: .ref mpa :: .ref mta :: .ref mla :: .ref msl :: .ref mco :: .ref mhe :: .ref mso :: .ref msi :: .ref msh :: .ref mce :: .ref mca :: .ref mwo :: .ref mnu :: .ref mte :: .int 0 :: .int 0 :: .int 0 :: .int 0 :: .int 0 :: .ref mwa :: .ref mke :: .ref mma :: .ref mth :: .ref mtr :: .int 0 :: .int 0 :: []))) :: (mrf, .inl (cI, 8, .inl (fun _ => 0))) :: (mki, .inl (cI, 8, .inl (fun _ => 0))) :: (mpa, .inl (cI, 8, .inl (fun _ => 0))) :: (mta, .inl (cI, 8, .inl (fun _ => 0))) :: (mla, .inl (cI, 40, .inl (fun _ => 0))) :: (msl, .inl (cI, 40, .inl (fun _ => 0))) :: (mco, .inl (cI, 3, .inl (zL3 5 10 50))) :: (mhe, .inl (cI, 8, .inl (fun _ => 0))) :: (mso, .inl (cI, 8, .inl (fun _ => 0))) :: (msi, .inl (cI, 8, .inl (fun _ => 0))) :: (msh, .inl (cI, 8, .inl (fun _ => 0))) :: (mce, .inl (cJ, 1280, .inr (.inl (fun _ => 0)))) :: (mca, .inl (cJ, 160, .inr (.inl (fun _ => 0)))) :: (mwo, .inl (cI, 64, .inl fw_)) :: (mnu, .inl (cI, 10, .inl fn_)) :: (mte, .inl (cI, 3, .inl (fun _ => 0))) :: (mwa, .inl (cI, 130, .inl (fun _ => 0))) :: (mke, .inl (cI, 130, .inl (fun _ => 0))) :: (mma, .inl (cI, 3, .inl (fun _ => 0))) :: (mth, .inl (cI, 3, .inl (fun _ => 0))) :: (mtr, .inl (cI, 20, .inl (fun _ => 0))) :: []) := hD
  refine lv_aload_n hx hb dL_law_379 rfl (lv_at hl 2 rfl) ?_
  refine lv_aload_n hx hb dL_law_380 rfl (lv_at hl 3 rfl) ?_
  refine lv_iload_n hx hb dL_law_381 rfl (lv_at hl 0 rfl) ?_
  refine lv_iconst (v := 1) hx hb dL_law_382 (by decide) ?_
  refine lv_iadd hx hb dL_law_383 ?_
  refine lv_topi (fun y_1 ey_1 => ?_)
  obtain rfl : y_1 = 1 := ey_1.trans (by decide)
  refine va_sld hx hb hX hbl hbA hS (zf_in (by decide) (by decide)) dL_law_384 ?_
  refine lv_topi (fun a_3 ea_3 => ?_)
  refine lv_aload_n hx hb dL_law_385 rfl (lv_at hl 3 rfl) ?_
  refine lv_iload_n hx hb dL_law_386 rfl (lv_at hl 0 rfl) ?_
  refine lv_iconst (v := 2) hx hb dL_law_387 (by decide) ?_
  refine lv_iadd hx hb dL_law_388 ?_
  refine lv_topi (fun y_4 ey_4 => ?_)
  obtain rfl : y_4 = 2 := ey_4.trans (by decide)
  refine va_sld hx hb hX hbl hbA hS (zf_in (by decide) (by decide)) dL_law_389 ?_
  refine lv_topi (fun a_6 ea_6 => ?_)
  skip
  refine zw_Vl (As := [.int a_3, .int a_6]) (rest := []) (wr := ((m0, .inr (8, (.int 0 :: .int 20 :: .int 0 :: .int 0 :: .int 0 :: .int 60 :: .int 0 :: .int 3 :: .int 1 :: .int (-1) :: .ref mrf :: .ref mki :: .ref mpa :: .ref mta :: .ref mla :: .ref msl :: .ref mco :: .ref mhe :: .ref mso :: .ref msi :: .ref msh :: .ref mce :: .ref mca :: .ref mwo :: .ref mnu :: .ref mte :: .int 0 :: .int 0 :: .int 0 :: .int 0 :: .int 0 :: .ref mwa :: .ref mke :: .ref mma :: .ref mth :: .ref mtr :: .int 0 :: .int 0 :: []))) :: (mrf, .inl (cI, 8, .inl (fun _ => 0))) :: (mki, .inl (cI, 8, .inl (fun _ => 0))) :: (mpa, .inl (cI, 8, .inl (fun _ => 0))) :: (mta, .inl (cI, 8, .inl (fun _ => 0))) :: (mla, .inl (cI, 40, .inl (fun _ => 0))) :: (msl, .inl (cI, 40, .inl (fun _ => 0))) :: (mco, .inl (cI, 3, .inl (zL3 5 10 50))) :: (mhe, .inl (cI, 8, .inl (fun _ => 0))) :: (mso, .inl (cI, 8, .inl (fun _ => 0))) :: (msi, .inl (cI, 8, .inl (fun _ => 0))) :: (msh, .inl (cI, 8, .inl (fun _ => 0))) :: (mce, .inl (cJ, 1280, .inr (.inl (fun _ => 0)))) :: (mca, .inl (cJ, 160, .inr (.inl (fun _ => 0)))) :: (mwo, .inl (cI, 64, .inl fw_)) :: (mnu, .inl (cI, 10, .inl fn_)) :: (mte, .inl (cI, 3, .inl (fun _ => 0))) :: (mwa, .inl (cI, 130, .inl (fun _ => 0))) :: (mke, .inl (cI, 130, .inl (fun _ => 0))) :: (mma, .inl (cI, 3, .inl (fun _ => 0))) :: (mth, .inl (cI, 3, .inl (fun _ => 0))) :: (mtr, .inl (cI, 20, .inl (fun _ => 0))) :: [])) ⟨hx, hb, hml, hown, hts⟩ (c_element l D cI cJ cZ cP cS x0 xs j0 k0 w0 rd mv xr sh el (a_3) (a_6)  H.size) (cwV 2 hts gq_30 rfl rfl rfl (by decide +kernel) ⟨Nat.le_of_ble_eq_true rfl, Nat.le_of_ble_eq_true rfl⟩) hK hN (hZ.kept hS) hP hD hS hA [0, 24, 1, 25, 27, 29, 31, 33, 35, 37, 39] [41, 42, 43, 44, 45, 46, 47, 48, 49, 50, 51, 52, 53, 54, 55, 56, 57, 58, 59, 60, 61, 62] rfl rfl (by decide) (by decide) (by decide) (va_recv hK hP (ci := 7) (q0 := 0) rfl rfl) rfl hl.1 rfl (Nat.le_of_ble_eq_true rfl) dL_law_390 ⟨Nat.le_of_ble_eq_true rfl, Nat.le_of_ble_eq_true rfl⟩ (fun r_7 u_8 H locs hr_7 hP hD hS => ?_)
  replace hP : va_P D vwCl ((m0, .inr (8, (.int 0 :: .int 20 :: .int 0 :: .int 0 :: .int 0 :: .int 60 :: .int 0 :: .int 3 :: .int 1 :: .int (-1) :: .ref mrf :: .ref mki :: .ref mpa :: .ref mta :: .ref mla :: .ref msl :: .ref mco :: .ref mhe :: .ref mso :: .ref msi :: .ref msh :: .ref mce :: .ref mca :: .ref mwo :: .ref mnu :: .ref mte :: .int 0 :: .int 0 :: .int 0 :: .int 0 :: .int 0 :: .ref mwa :: .ref mke :: .ref mma :: .ref mth :: .ref mtr :: .int 0 :: .int 0 :: []))) :: (mrf, .inl (cI, 8, .inl (fun _ => 0))) :: (mki, .inl (cI, 8, .inl (fun _ => 0))) :: (mpa, .inl (cI, 8, .inl (fun _ => 0))) :: (mta, .inl (cI, 8, .inl (fun _ => 0))) :: (mla, .inl (cI, 40, .inl (fun _ => 0))) :: (msl, .inl (cI, 40, .inl (fun _ => 0))) :: (mco, .inl (cI, 3, .inl (zL3 5 10 50))) :: (mhe, .inl (cI, 8, .inl (fun _ => 0))) :: (mso, .inl (cI, 8, .inl (fun _ => 0))) :: (msi, .inl (cI, 8, .inl (fun _ => 0))) :: (msh, .inl (cI, 8, .inl (fun _ => 0))) :: (mce, .inl (cJ, 1280, .inr (.inl (fun _ => 0)))) :: (mca, .inl (cJ, 160, .inr (.inl (fun _ => 0)))) :: (mwo, .inl (cI, 64, .inl fw_)) :: (mnu, .inl (cI, 10, .inl fn_)) :: (mte, .inl (cI, 3, .inl (fun _ => 0))) :: (mwa, .inl (cI, 130, .inl (fun _ => 0))) :: (mke, .inl (cI, 130, .inl (fun _ => 0))) :: (mma, .inl (cI, 3, .inl (fun _ => 0))) :: (mth, .inl (cI, 3, .inl (fun _ => 0))) :: (mtr, .inl (cI, 20, .inl (fun _ => 0))) :: []) H := hP
  replace hD : va_D _ ((m0, .inr (8, (.int 0 :: .int 20 :: .int 0 :: .int 0 :: .int 0 :: .int 60 :: .int 0 :: .int 3 :: .int 1 :: .int (-1) :: .ref mrf :: .ref mki :: .ref mpa :: .ref mta :: .ref mla :: .ref msl :: .ref mco :: .ref mhe :: .ref mso :: .ref msi :: .ref msh :: .ref mce :: .ref mca :: .ref mwo :: .ref mnu :: .ref mte :: .int 0 :: .int 0 :: .int 0 :: .int 0 :: .int 0 :: .ref mwa :: .ref mke :: .ref mma :: .ref mth :: .ref mtr :: .int 0 :: .int 0 :: []))) :: (mrf, .inl (cI, 8, .inl (fun _ => 0))) :: (mki, .inl (cI, 8, .inl (fun _ => 0))) :: (mpa, .inl (cI, 8, .inl (fun _ => 0))) :: (mta, .inl (cI, 8, .inl (fun _ => 0))) :: (mla, .inl (cI, 40, .inl (fun _ => 0))) :: (msl, .inl (cI, 40, .inl (fun _ => 0))) :: (mco, .inl (cI, 3, .inl (zL3 5 10 50))) :: (mhe, .inl (cI, 8, .inl (fun _ => 0))) :: (mso, .inl (cI, 8, .inl (fun _ => 0))) :: (msi, .inl (cI, 8, .inl (fun _ => 0))) :: (msh, .inl (cI, 8, .inl (fun _ => 0))) :: (mce, .inl (cJ, 1280, .inr (.inl (fun _ => 0)))) :: (mca, .inl (cJ, 160, .inr (.inl (fun _ => 0)))) :: (mwo, .inl (cI, 64, .inl fw_)) :: (mnu, .inl (cI, 10, .inl fn_)) :: (mte, .inl (cI, 3, .inl (fun _ => 0))) :: (mwa, .inl (cI, 130, .inl (fun _ => 0))) :: (mke, .inl (cI, 130, .inl (fun _ => 0))) :: (mma, .inl (cI, 3, .inl (fun _ => 0))) :: (mth, .inl (cI, 3, .inl (fun _ => 0))) :: (mtr, .inl (cI, 20, .inl (fun _ => 0))) :: []) := hD
  rcases hr_7 with ⟨rfl, g_9⟩ | ⟨rfl, g_10, g_11⟩ | ⟨rfl, g_12, g_13⟩
  · refine lv_aload_n hx hb dL_law_393 rfl (lv_at hl 1 rfl) ?_
    refine lv_aload_n hx hb dL_law_394 rfl (lv_at hl 3 rfl) ?_
    refine lv_iload_n hx hb dL_law_395 rfl (lv_at hl 0 rfl) ?_
    refine lv_iconst (v := 1) hx hb dL_law_396 (by decide) ?_
    refine lv_iadd hx hb dL_law_397 ?_
    refine lv_topi (fun y_14 ey_14 => ?_)
    obtain rfl : y_14 = 1 := ey_14.trans (by decide)
    refine va_sld hx hb hX hbl hbA hS (zf_in (by decide) (by decide)) dL_law_398 ?_
    refine lv_topi (fun y_15 ey_15 => ?_)
    obtain rfl : a_3 = y_15 := ea_3.trans ey_15.symm
    refine lv_aload_n hx hb dL_law_399 rfl (lv_at hl 3 rfl) ?_
    refine lv_iload_n hx hb dL_law_400 rfl (lv_at hl 0 rfl) ?_
    refine lv_iconst (v := 2) hx hb dL_law_401 (by decide) ?_
    refine lv_iadd hx hb dL_law_402 ?_
    refine lv_topi (fun y_16 ey_16 => ?_)
    obtain rfl : y_16 = 2 := ey_16.trans (by decide)
    refine va_sld hx hb hX hbl hbA hS (zf_in (by decide) (by decide)) dL_law_403 ?_
    refine lv_topi (fun y_17 ey_17 => ?_)
    obtain rfl : a_6 = y_17 := ea_6.trans ey_17.symm
    skip
    refine zw_Vl (As := [.int a_3, .int a_6]) (rest := [.long 0]) (wr := [(mrf, .inl (cI, 8, .inl (fun _ => 0))), (mki, .inl (cI, 8, .inl (fun _ => 0))), (mpa, .inl (cI, 8, .inl (fun _ => 0))), (mta, .inl (cI, 8, .inl (fun _ => 0))), (mla, .inl (cI, 40, .inl (fun _ => 0))), (msl, .inl (cI, 40, .inl (fun _ => 0))), (mco, .inl (cI, 3, .inl (zL3 5 10 50))), (mso, .inl (cI, 8, .inl (fun _ => 0))), (msi, .inl (cI, 8, .inl (fun _ => 0))), (msh, .inl (cI, 8, .inl (fun _ => 0))), (mce, .inl (cJ, 1280, .inr (.inl (fun _ => 0)))), (mca, .inl (cJ, 160, .inr (.inl (fun _ => 0)))), (mwo, .inl (cI, 64, .inl fw_)), (mnu, .inl (cI, 10, .inl fn_)), (mte, .inl (cI, 3, .inl (fun _ => 0))), (mwa, .inl (cI, 130, .inl (fun _ => 0))), (mke, .inl (cI, 130, .inl (fun _ => 0))), (mma, .inl (cI, 3, .inl (fun _ => 0))), (mth, .inl (cI, 3, .inl (fun _ => 0))), (mtr, .inl (cI, 20, .inl (fun _ => 0)))]) ⟨hx, hb, hml, hown, hts⟩ (c_M_element l D cI cJ cZ cP cS m0 mrf mki mpa mta mla msl mco mhe mso msi msh mce mca mwo mnu mte mwa mke mma mth mtr (a_3) (a_6)  H.size) (cwV 2 hts gq_34 rfl rfl rfl (by decide +kernel) ⟨Nat.le_of_ble_eq_true rfl, Nat.le_of_ble_eq_true rfl⟩) hK hN (hZ.kept hS) hP hD hS hA [0, 8] [1, 2, 3, 4, 5, 6, 7, 9, 10, 11, 12, 13, 14, 15, 16, 17, 18, 19, 20, 21] rfl rfl (by decide) (by decide) (by decide) (va_recv hK hP (ci := 8) (q0 := 0) rfl rfl) rfl hl.1 rfl (Nat.le_of_ble_eq_true rfl) dL_law_404 ⟨Nat.le_of_ble_eq_true rfl, Nat.le_of_ble_eq_true rfl⟩ (fun r_18 u_19 H locs hr_18 hP hD hS => ?_)
    replace hP : va_P D vwCl [(mrf, .inl (cI, 8, .inl (fun _ => 0))), (mki, .inl (cI, 8, .inl (fun _ => 0))), (mpa, .inl (cI, 8, .inl (fun _ => 0))), (mta, .inl (cI, 8, .inl (fun _ => 0))), (mla, .inl (cI, 40, .inl (fun _ => 0))), (msl, .inl (cI, 40, .inl (fun _ => 0))), (mco, .inl (cI, 3, .inl (zL3 5 10 50))), (mso, .inl (cI, 8, .inl (fun _ => 0))), (msi, .inl (cI, 8, .inl (fun _ => 0))), (msh, .inl (cI, 8, .inl (fun _ => 0))), (mce, .inl (cJ, 1280, .inr (.inl (fun _ => 0)))), (mca, .inl (cJ, 160, .inr (.inl (fun _ => 0)))), (mwo, .inl (cI, 64, .inl fw_)), (mnu, .inl (cI, 10, .inl fn_)), (mte, .inl (cI, 3, .inl (fun _ => 0))), (mwa, .inl (cI, 130, .inl (fun _ => 0))), (mke, .inl (cI, 130, .inl (fun _ => 0))), (mma, .inl (cI, 3, .inl (fun _ => 0))), (mth, .inl (cI, 3, .inl (fun _ => 0))), (mtr, .inl (cI, 20, .inl (fun _ => 0)))] H := hP
    replace hD : va_D _ [(mrf, .inl (cI, 8, .inl (fun _ => 0))), (mki, .inl (cI, 8, .inl (fun _ => 0))), (mpa, .inl (cI, 8, .inl (fun _ => 0))), (mta, .inl (cI, 8, .inl (fun _ => 0))), (mla, .inl (cI, 40, .inl (fun _ => 0))), (msl, .inl (cI, 40, .inl (fun _ => 0))), (mco, .inl (cI, 3, .inl (zL3 5 10 50))), (mso, .inl (cI, 8, .inl (fun _ => 0))), (msi, .inl (cI, 8, .inl (fun _ => 0))), (msh, .inl (cI, 8, .inl (fun _ => 0))), (mce, .inl (cJ, 1280, .inr (.inl (fun _ => 0)))), (mca, .inl (cJ, 160, .inr (.inl (fun _ => 0)))), (mwo, .inl (cI, 64, .inl fw_)), (mnu, .inl (cI, 10, .inl fn_)), (mte, .inl (cI, 3, .inl (fun _ => 0))), (mwa, .inl (cI, 130, .inl (fun _ => 0))), (mke, .inl (cI, 130, .inl (fun _ => 0))), (mma, .inl (cI, 3, .inl (fun _ => 0))), (mth, .inl (cI, 3, .inl (fun _ => 0))), (mtr, .inl (cI, 20, .inl (fun _ => 0)))] := hD
    rcases hr_18 with ⟨rfl, g_20⟩ | ⟨rfl, g_21, g_22⟩ | ⟨rfl, g_23, g_24⟩
    · refine W.lcmp hx hb dL_law_407 ?_
      refine lv_topi (fun y_25 ey_25 => ?_)
      obtain rfl : y_25 = 0 := ey_25.trans (by decide)
      refine lv_if_eq (tgt := 1371) hx hb dL_law_408 (by decide) (fun c_26 => ?_) (fun c_26 => ?_)
      · refine lv_iinc (v := 6) (lv' := [(3, .int 6), (2, .ref m0), (1, .ref x0), (0, .ref b)]) hx hb dL_law_1371 hl (k := 0) rfl (by decide) (by decide) rfl (fun ls hl => ?_)
        refine lv_goto (tgt := 18) hx hb dL_law_1374 (by decide) ?_
        refine lv_iload_n hx hb dL_law_18 rfl (lv_at hl 0 rfl) ?_
        refine lv_aload_n hx hb dL_law_19 rfl (lv_at hl 3 rfl) ?_
        refine va_slen hx hb hX hbl hbA hS dL_law_20 ?_
        refine lv_topi (fun y_27 ey_27 => ?_)
        obtain rfl : y_27 = 6 := ey_27.trans (by decide)
        refine lv_bipush (v := 6) hx hb dL_law_21 (by decide) ?_
        refine lv_isub hx hb dL_law_23 ?_
        refine lv_topi (fun y_28 ey_28 => ?_)
        obtain rfl : y_28 = 0 := ey_28.trans (by decide)
        refine lv_icmp_gt (tgt := 1377) hx hb dL_law_24 (by decide) (fun c_29 => ?_) (fun c_29 => ?_)
        · refine lv_iconst (v := 1) hx hb dL_law_1377 (by decide) ?_
          refine va_forget (fun q hq => hS.2.2 q hq) ?_
          refine W.widen (k := 600000) (n := 7302250) (Nat.le_of_ble_eq_true rfl) (Nat.le_of_ble_eq_true rfl) ?_
          exact lw_ret hx hb hr hlocks dL_law_1378
        · exact absurd c_29 (by decide)
      · exact absurd c_26 (by decide)
    · exfalso; omega
    · exfalso; omega
  · refine lv_aload_n hx hb dL_law_393 rfl (lv_at hl 1 rfl) ?_
    refine lv_aload_n hx hb dL_law_394 rfl (lv_at hl 3 rfl) ?_
    refine lv_iload_n hx hb dL_law_395 rfl (lv_at hl 0 rfl) ?_
    refine lv_iconst (v := 1) hx hb dL_law_396 (by decide) ?_
    refine lv_iadd hx hb dL_law_397 ?_
    refine lv_topi (fun y_30 ey_30 => ?_)
    obtain rfl : y_30 = 1 := ey_30.trans (by decide)
    refine va_sld hx hb hX hbl hbA hS (zf_in (by decide) (by decide)) dL_law_398 ?_
    refine lv_topi (fun y_31 ey_31 => ?_)
    obtain rfl : a_3 = y_31 := ea_3.trans ey_31.symm
    refine lv_aload_n hx hb dL_law_399 rfl (lv_at hl 3 rfl) ?_
    refine lv_iload_n hx hb dL_law_400 rfl (lv_at hl 0 rfl) ?_
    refine lv_iconst (v := 2) hx hb dL_law_401 (by decide) ?_
    refine lv_iadd hx hb dL_law_402 ?_
    refine lv_topi (fun y_32 ey_32 => ?_)
    obtain rfl : y_32 = 2 := ey_32.trans (by decide)
    refine va_sld hx hb hX hbl hbA hS (zf_in (by decide) (by decide)) dL_law_403 ?_
    refine lv_topi (fun y_33 ey_33 => ?_)
    obtain rfl : a_6 = y_33 := ea_6.trans ey_33.symm
    skip
    refine zw_Vl (As := [.int a_3, .int a_6]) (rest := [.long 0]) (wr := [(mrf, .inl (cI, 8, .inl (fun _ => 0))), (mki, .inl (cI, 8, .inl (fun _ => 0))), (mpa, .inl (cI, 8, .inl (fun _ => 0))), (mta, .inl (cI, 8, .inl (fun _ => 0))), (mla, .inl (cI, 40, .inl (fun _ => 0))), (msl, .inl (cI, 40, .inl (fun _ => 0))), (mco, .inl (cI, 3, .inl (zL3 5 10 50))), (mso, .inl (cI, 8, .inl (fun _ => 0))), (msi, .inl (cI, 8, .inl (fun _ => 0))), (msh, .inl (cI, 8, .inl (fun _ => 0))), (mce, .inl (cJ, 1280, .inr (.inl (fun _ => 0)))), (mca, .inl (cJ, 160, .inr (.inl (fun _ => 0)))), (mwo, .inl (cI, 64, .inl fw_)), (mnu, .inl (cI, 10, .inl fn_)), (mte, .inl (cI, 3, .inl (fun _ => 0))), (mwa, .inl (cI, 130, .inl (fun _ => 0))), (mke, .inl (cI, 130, .inl (fun _ => 0))), (mma, .inl (cI, 3, .inl (fun _ => 0))), (mth, .inl (cI, 3, .inl (fun _ => 0))), (mtr, .inl (cI, 20, .inl (fun _ => 0)))]) ⟨hx, hb, hml, hown, hts⟩ (c_M_element l D cI cJ cZ cP cS m0 mrf mki mpa mta mla msl mco mhe mso msi msh mce mca mwo mnu mte mwa mke mma mth mtr (a_3) (a_6)  H.size) (cwV 2 hts gq_34 rfl rfl rfl (by decide +kernel) ⟨Nat.le_of_ble_eq_true rfl, Nat.le_of_ble_eq_true rfl⟩) hK hN (hZ.kept hS) hP hD hS hA [0, 8] [1, 2, 3, 4, 5, 6, 7, 9, 10, 11, 12, 13, 14, 15, 16, 17, 18, 19, 20, 21] rfl rfl (by decide) (by decide) (by decide) (va_recv hK hP (ci := 8) (q0 := 0) rfl rfl) rfl hl.1 rfl (Nat.le_of_ble_eq_true rfl) dL_law_404 ⟨Nat.le_of_ble_eq_true rfl, Nat.le_of_ble_eq_true rfl⟩ (fun r_34 u_35 H locs hr_34 hP hD hS => ?_)
    replace hP : va_P D vwCl [(mrf, .inl (cI, 8, .inl (fun _ => 0))), (mki, .inl (cI, 8, .inl (fun _ => 0))), (mpa, .inl (cI, 8, .inl (fun _ => 0))), (mta, .inl (cI, 8, .inl (fun _ => 0))), (mla, .inl (cI, 40, .inl (fun _ => 0))), (msl, .inl (cI, 40, .inl (fun _ => 0))), (mco, .inl (cI, 3, .inl (zL3 5 10 50))), (mso, .inl (cI, 8, .inl (fun _ => 0))), (msi, .inl (cI, 8, .inl (fun _ => 0))), (msh, .inl (cI, 8, .inl (fun _ => 0))), (mce, .inl (cJ, 1280, .inr (.inl (fun _ => 0)))), (mca, .inl (cJ, 160, .inr (.inl (fun _ => 0)))), (mwo, .inl (cI, 64, .inl fw_)), (mnu, .inl (cI, 10, .inl fn_)), (mte, .inl (cI, 3, .inl (fun _ => 0))), (mwa, .inl (cI, 130, .inl (fun _ => 0))), (mke, .inl (cI, 130, .inl (fun _ => 0))), (mma, .inl (cI, 3, .inl (fun _ => 0))), (mth, .inl (cI, 3, .inl (fun _ => 0))), (mtr, .inl (cI, 20, .inl (fun _ => 0)))] H := hP
    replace hD : va_D _ [(mrf, .inl (cI, 8, .inl (fun _ => 0))), (mki, .inl (cI, 8, .inl (fun _ => 0))), (mpa, .inl (cI, 8, .inl (fun _ => 0))), (mta, .inl (cI, 8, .inl (fun _ => 0))), (mla, .inl (cI, 40, .inl (fun _ => 0))), (msl, .inl (cI, 40, .inl (fun _ => 0))), (mco, .inl (cI, 3, .inl (zL3 5 10 50))), (mso, .inl (cI, 8, .inl (fun _ => 0))), (msi, .inl (cI, 8, .inl (fun _ => 0))), (msh, .inl (cI, 8, .inl (fun _ => 0))), (mce, .inl (cJ, 1280, .inr (.inl (fun _ => 0)))), (mca, .inl (cJ, 160, .inr (.inl (fun _ => 0)))), (mwo, .inl (cI, 64, .inl fw_)), (mnu, .inl (cI, 10, .inl fn_)), (mte, .inl (cI, 3, .inl (fun _ => 0))), (mwa, .inl (cI, 130, .inl (fun _ => 0))), (mke, .inl (cI, 130, .inl (fun _ => 0))), (mma, .inl (cI, 3, .inl (fun _ => 0))), (mth, .inl (cI, 3, .inl (fun _ => 0))), (mtr, .inl (cI, 20, .inl (fun _ => 0)))] := hD
    rcases hr_34 with ⟨rfl, g_36⟩ | ⟨rfl, g_37, g_38⟩ | ⟨rfl, g_39, g_40⟩
    · exfalso; omega
    · refine W.lcmp hx hb dL_law_407 ?_
      refine lv_topi (fun y_41 ey_41 => ?_)
      obtain rfl : y_41 = 0 := ey_41.trans (by decide)
      refine lv_if_eq (tgt := 1371) hx hb dL_law_408 (by decide) (fun c_42 => ?_) (fun c_42 => ?_)
      · refine lv_iinc (v := 6) (lv' := [(3, .int 6), (2, .ref m0), (1, .ref x0), (0, .ref b)]) hx hb dL_law_1371 hl (k := 0) rfl (by decide) (by decide) rfl (fun ls hl => ?_)
        refine lv_goto (tgt := 18) hx hb dL_law_1374 (by decide) ?_
        refine lv_iload_n hx hb dL_law_18 rfl (lv_at hl 0 rfl) ?_
        refine lv_aload_n hx hb dL_law_19 rfl (lv_at hl 3 rfl) ?_
        refine va_slen hx hb hX hbl hbA hS dL_law_20 ?_
        refine lv_topi (fun y_43 ey_43 => ?_)
        obtain rfl : y_43 = 6 := ey_43.trans (by decide)
        refine lv_bipush (v := 6) hx hb dL_law_21 (by decide) ?_
        refine lv_isub hx hb dL_law_23 ?_
        refine lv_topi (fun y_44 ey_44 => ?_)
        obtain rfl : y_44 = 0 := ey_44.trans (by decide)
        refine lv_icmp_gt (tgt := 1377) hx hb dL_law_24 (by decide) (fun c_45 => ?_) (fun c_45 => ?_)
        · refine lv_iconst (v := 1) hx hb dL_law_1377 (by decide) ?_
          refine va_forget (fun q hq => hS.2.2 q hq) ?_
          refine W.widen (k := 600000) (n := 7302250) (Nat.le_of_ble_eq_true rfl) (Nat.le_of_ble_eq_true rfl) ?_
          exact lw_ret hx hb hr hlocks dL_law_1378
        · exact absurd c_45 (by decide)
      · exact absurd c_42 (by decide)
    · exfalso; omega
  · refine lv_aload_n hx hb dL_law_393 rfl (lv_at hl 1 rfl) ?_
    refine lv_aload_n hx hb dL_law_394 rfl (lv_at hl 3 rfl) ?_
    refine lv_iload_n hx hb dL_law_395 rfl (lv_at hl 0 rfl) ?_
    refine lv_iconst (v := 1) hx hb dL_law_396 (by decide) ?_
    refine lv_iadd hx hb dL_law_397 ?_
    refine lv_topi (fun y_46 ey_46 => ?_)
    obtain rfl : y_46 = 1 := ey_46.trans (by decide)
    refine va_sld hx hb hX hbl hbA hS (zf_in (by decide) (by decide)) dL_law_398 ?_
    refine lv_topi (fun y_47 ey_47 => ?_)
    obtain rfl : a_3 = y_47 := ea_3.trans ey_47.symm
    refine lv_aload_n hx hb dL_law_399 rfl (lv_at hl 3 rfl) ?_
    refine lv_iload_n hx hb dL_law_400 rfl (lv_at hl 0 rfl) ?_
    refine lv_iconst (v := 2) hx hb dL_law_401 (by decide) ?_
    refine lv_iadd hx hb dL_law_402 ?_
    refine lv_topi (fun y_48 ey_48 => ?_)
    obtain rfl : y_48 = 2 := ey_48.trans (by decide)
    refine va_sld hx hb hX hbl hbA hS (zf_in (by decide) (by decide)) dL_law_403 ?_
    refine lv_topi (fun y_49 ey_49 => ?_)
    obtain rfl : a_6 = y_49 := ea_6.trans ey_49.symm
    skip
    refine zw_Vl (As := [.int a_3, .int a_6]) (rest := [.long 0]) (wr := [(mrf, .inl (cI, 8, .inl (fun _ => 0))), (mki, .inl (cI, 8, .inl (fun _ => 0))), (mpa, .inl (cI, 8, .inl (fun _ => 0))), (mta, .inl (cI, 8, .inl (fun _ => 0))), (mla, .inl (cI, 40, .inl (fun _ => 0))), (msl, .inl (cI, 40, .inl (fun _ => 0))), (mco, .inl (cI, 3, .inl (zL3 5 10 50))), (mso, .inl (cI, 8, .inl (fun _ => 0))), (msi, .inl (cI, 8, .inl (fun _ => 0))), (msh, .inl (cI, 8, .inl (fun _ => 0))), (mce, .inl (cJ, 1280, .inr (.inl (fun _ => 0)))), (mca, .inl (cJ, 160, .inr (.inl (fun _ => 0)))), (mwo, .inl (cI, 64, .inl fw_)), (mnu, .inl (cI, 10, .inl fn_)), (mte, .inl (cI, 3, .inl (fun _ => 0))), (mwa, .inl (cI, 130, .inl (fun _ => 0))), (mke, .inl (cI, 130, .inl (fun _ => 0))), (mma, .inl (cI, 3, .inl (fun _ => 0))), (mth, .inl (cI, 3, .inl (fun _ => 0))), (mtr, .inl (cI, 20, .inl (fun _ => 0)))]) ⟨hx, hb, hml, hown, hts⟩ (c_M_element l D cI cJ cZ cP cS m0 mrf mki mpa mta mla msl mco mhe mso msi msh mce mca mwo mnu mte mwa mke mma mth mtr (a_3) (a_6)  H.size) (cwV 2 hts gq_34 rfl rfl rfl (by decide +kernel) ⟨Nat.le_of_ble_eq_true rfl, Nat.le_of_ble_eq_true rfl⟩) hK hN (hZ.kept hS) hP hD hS hA [0, 8] [1, 2, 3, 4, 5, 6, 7, 9, 10, 11, 12, 13, 14, 15, 16, 17, 18, 19, 20, 21] rfl rfl (by decide) (by decide) (by decide) (va_recv hK hP (ci := 8) (q0 := 0) rfl rfl) rfl hl.1 rfl (Nat.le_of_ble_eq_true rfl) dL_law_404 ⟨Nat.le_of_ble_eq_true rfl, Nat.le_of_ble_eq_true rfl⟩ (fun r_50 u_51 H locs hr_50 hP hD hS => ?_)
    replace hP : va_P D vwCl [(mrf, .inl (cI, 8, .inl (fun _ => 0))), (mki, .inl (cI, 8, .inl (fun _ => 0))), (mpa, .inl (cI, 8, .inl (fun _ => 0))), (mta, .inl (cI, 8, .inl (fun _ => 0))), (mla, .inl (cI, 40, .inl (fun _ => 0))), (msl, .inl (cI, 40, .inl (fun _ => 0))), (mco, .inl (cI, 3, .inl (zL3 5 10 50))), (mso, .inl (cI, 8, .inl (fun _ => 0))), (msi, .inl (cI, 8, .inl (fun _ => 0))), (msh, .inl (cI, 8, .inl (fun _ => 0))), (mce, .inl (cJ, 1280, .inr (.inl (fun _ => 0)))), (mca, .inl (cJ, 160, .inr (.inl (fun _ => 0)))), (mwo, .inl (cI, 64, .inl fw_)), (mnu, .inl (cI, 10, .inl fn_)), (mte, .inl (cI, 3, .inl (fun _ => 0))), (mwa, .inl (cI, 130, .inl (fun _ => 0))), (mke, .inl (cI, 130, .inl (fun _ => 0))), (mma, .inl (cI, 3, .inl (fun _ => 0))), (mth, .inl (cI, 3, .inl (fun _ => 0))), (mtr, .inl (cI, 20, .inl (fun _ => 0)))] H := hP
    replace hD : va_D _ [(mrf, .inl (cI, 8, .inl (fun _ => 0))), (mki, .inl (cI, 8, .inl (fun _ => 0))), (mpa, .inl (cI, 8, .inl (fun _ => 0))), (mta, .inl (cI, 8, .inl (fun _ => 0))), (mla, .inl (cI, 40, .inl (fun _ => 0))), (msl, .inl (cI, 40, .inl (fun _ => 0))), (mco, .inl (cI, 3, .inl (zL3 5 10 50))), (mso, .inl (cI, 8, .inl (fun _ => 0))), (msi, .inl (cI, 8, .inl (fun _ => 0))), (msh, .inl (cI, 8, .inl (fun _ => 0))), (mce, .inl (cJ, 1280, .inr (.inl (fun _ => 0)))), (mca, .inl (cJ, 160, .inr (.inl (fun _ => 0)))), (mwo, .inl (cI, 64, .inl fw_)), (mnu, .inl (cI, 10, .inl fn_)), (mte, .inl (cI, 3, .inl (fun _ => 0))), (mwa, .inl (cI, 130, .inl (fun _ => 0))), (mke, .inl (cI, 130, .inl (fun _ => 0))), (mma, .inl (cI, 3, .inl (fun _ => 0))), (mth, .inl (cI, 3, .inl (fun _ => 0))), (mtr, .inl (cI, 20, .inl (fun _ => 0)))] := hD
    rcases hr_50 with ⟨rfl, g_52⟩ | ⟨rfl, g_53, g_54⟩ | ⟨rfl, g_55, g_56⟩
    · exfalso; omega
    · exfalso; omega
    · refine W.lcmp hx hb dL_law_407 ?_
      refine lv_topi (fun y_57 ey_57 => ?_)
      obtain rfl : y_57 = 0 := ey_57.trans (by decide)
      refine lv_if_eq (tgt := 1371) hx hb dL_law_408 (by decide) (fun c_58 => ?_) (fun c_58 => ?_)
      · refine lv_iinc (v := 6) (lv' := [(3, .int 6), (2, .ref m0), (1, .ref x0), (0, .ref b)]) hx hb dL_law_1371 hl (k := 0) rfl (by decide) (by decide) rfl (fun ls hl => ?_)
        refine lv_goto (tgt := 18) hx hb dL_law_1374 (by decide) ?_
        refine lv_iload_n hx hb dL_law_18 rfl (lv_at hl 0 rfl) ?_
        refine lv_aload_n hx hb dL_law_19 rfl (lv_at hl 3 rfl) ?_
        refine va_slen hx hb hX hbl hbA hS dL_law_20 ?_
        refine lv_topi (fun y_59 ey_59 => ?_)
        obtain rfl : y_59 = 6 := ey_59.trans (by decide)
        refine lv_bipush (v := 6) hx hb dL_law_21 (by decide) ?_
        refine lv_isub hx hb dL_law_23 ?_
        refine lv_topi (fun y_60 ey_60 => ?_)
        obtain rfl : y_60 = 0 := ey_60.trans (by decide)
        refine lv_icmp_gt (tgt := 1377) hx hb dL_law_24 (by decide) (fun c_61 => ?_) (fun c_61 => ?_)
        · refine lv_iconst (v := 1) hx hb dL_law_1377 (by decide) ?_
          refine va_forget (fun q hq => hS.2.2 q hq) ?_
          refine W.widen (k := 600000) (n := 7302250) (Nat.le_of_ble_eq_true rfl) (Nat.le_of_ble_eq_true rfl) ?_
          exact lw_ret hx hb hr hlocks dL_law_1378
        · exact absurd c_61 (by decide)
      · exact absurd c_58 (by decide)
