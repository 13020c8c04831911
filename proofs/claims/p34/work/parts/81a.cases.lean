set_option maxHeartbeats 16000000 in
set_option maxRecDepth 200000 in
theorem law_core_0 {p : Program} {l : Launch} {e : Env} {s : State} {m : MethodId} {below : List Frame} {meth : Method} {c : Code} {D : va_G} {cI cJ cZ cP cS : ClassId} {b L : Nat} {xs_ : Nat → Int32} (x0 xs j0 k0 w0 rd mv xr m0 mrf mki mpa mta mla msl mco mhe mso msi msh mce mca mwo mnu mte mwa mke mma mth mtr : Nat) (sh el : Nat → Nat) {So : va_W} (n nkc nks : Nat) (i : Int32) (po : zPool) (im lf cn de tr se hu sd sz at_ gp kcn kde ktr kse khu ksd ksz kat kgp npu nte nat_ nde nto nse nhu nga nsd nfa nba npl nen nnu nwr nra nik : Int32) (fzl fzs fjc fkzl fkzs fkc fxr grf gki gpa gta gla gsl gco ghe gso gsi gsh gke he si kf af tf kkf kaf ktf : Nat → Int32) (gce : Nat → Int64) (fe : Nat → Nat → Int64) (C0 : lw_At p s m meth c b L xs_) (hK : va_K D vwCl (zKT cI cJ cZ cP cS) s) (hN : zN s) (hz1 : zSt (fun q : Nat => s.heap.size ≤ q) s s.heap) (hL : L ≤ 3072) (b_im : 0 ≤ im.toInt ∧ im.toInt ≤ 1) (b_lf : (-1) ≤ lf.toInt ∧ lf.toInt ≤ 160) (b_npu : 0 ≤ npu.toInt ∧ npu.toInt ≤ 8) (b_nte : 4 ≤ nte.toInt ∧ nte.toInt ≤ 40) (b_nat_ : 0 ≤ nat_.toInt ∧ nat_.toInt ≤ 40) (b_nde : 0 ≤ nde.toInt ∧ nde.toInt ≤ 24) (b_nhu : 0 ≤ nhu.toInt ∧ nhu.toInt ≤ 9) (b_nra : 0 ≤ nra.toInt ∧ nra.toInt ≤ 2000) (b_nik : 0 ≤ nik.toInt ∧ nik.toInt ≤ 1) (hp_ghe : zRg ghe (0) 2) (hp_gso : zRg gso (0) 3) (hp_gsi : zRg gsi (0) 160) (hp_gsh : zRg gsh (-1) 7) (hp_he : zRg he (-1) 103) (hp_si : zRg si (0) 160) (hHS : zHS ghe gsh) (hik : (nik.toInt = 1 → zKp gke)) (hR : zRel he si fe ghe gso gsi gsh gce) (hcn : cn.toInt = npu.toInt) (hsz : sz.toInt = nte.toInt) (him : im.toInt = nik.toInt) (hlf : lf.toInt = nfa.toInt) (hkq : (nik.toInt = 1 → kcn.toInt = (gke 107).toInt ∧ ksz.toInt = (gke 108).toInt)) (hT : zTt fzl fzs gla gsl gp nga) (hTk : (nik.toInt = 1 → zTk_ fkzl fkzs gke kgp)) (hKI : zTp kf af tf gki gpa gta hu nhu) (hKk : (nik.toInt = 1 → zTq kkf kaf ktf gke khu)) (hNu : zNu de at_ se tr sd fjc nde nat_ nse nto nsd gco) (hNk : (nik.toInt = 1 → zNk kde kat kse ktr ksd fkc gke)) (hz2 : zStr po (fun q : Nat => s.heap.size ≤ q) s s.heap) (hpr : ∀ z ∈ po.1, zPr z.2.1 z.2.2.1 z.2.2.2) (hkc : nkc ≤ 100 + 40 * n) (hks : nks ≤ 10000 + 120 * n) (hi6 : i.toInt = 6 * (n : Int)) (hn6 : 6 * (n : Int) + 6 ≤ (L : Int)) (H : Heap) (locs : List Loc) (hP : va_P D vwCl ([(x0, .inr (7, [.ref xs, .ref j0, .ref k0, .ref w0, .ref rd, .ref mv, .ref xr, .int im, .int lf])), (xs, .inl (cS, 8, .inr (.inr (.inr (.inr (zS sh)))))), (xr, .inl (cI, 8, .inl fxr)), (zMO m0 npu nte nat_ nde nto nse nhu nga nsd nfa mrf mki mpa mta mla msl mco mhe mso msi msh mce mca mwo mnu mte nba npl nen nnu nwr mwa mke mma mth mtr nra nik), (mrf, .inl (cI, 8, .inl grf)), (mhe, .inl (cI, 8, .inl ghe)), (mso, .inl (cI, 8, .inl gso)), (msi, .inl (cI, 8, .inl gsi)), (msh, .inl (cI, 8, .inl gsh)), (mce, .inl (cJ, 1280, .inr (.inl gce)))] ++ ((zShW cJ sh el he si fe ++ So) ++ po.1.map zPo)) H) (hD : va_D (fun q : Nat => s.heap.size ≤ q) ([(x0, .inr (7, [.ref xs, .ref j0, .ref k0, .ref w0, .ref rd, .ref mv, .ref xr, .int im, .int lf])), (xs, .inl (cS, 8, .inr (.inr (.inr (.inr (zS sh)))))), (xr, .inl (cI, 8, .inl fxr)), (zMO m0 npu nte nat_ nde nto nse nhu nga nsd nfa mrf mki mpa mta mla msl mco mhe mso msi msh mce mca mwo mnu mte nba npl nen nnu nwr mwa mke mma mth mtr nra nik), (mrf, .inl (cI, 8, .inl grf)), (mhe, .inl (cI, 8, .inl ghe)), (mso, .inl (cI, 8, .inl gso)), (msi, .inl (cI, 8, .inl gsi)), (msh, .inl (cI, 8, .inl gsh)), (mce, .inl (cJ, 1280, .inr (.inl gce)))] ++ ((zShW cJ sh el he si fe ++ So) ++ po.1.map zPo))) (hS : va_S (fun q : Nat => s.heap.size ≤ q) s.heap H locs) (ls : Array Slot) (hl : lv_has ls 4 [(3, .int i), (2, .ref m0), (1, .ref x0), (0, .ref b)]) (hnx : ∀ (im lf npu nte nat_ nde nto nse nhu nga nsd nfa nba npl nen nnu nwr nra nik : Int32) (fxr grf ghe gso gsi gsh he si : Nat → Int32) (gce : Nat → Int64) (fe : Nat → Nat → Int64) (b_im : 0 ≤ im.toInt ∧ im.toInt ≤ 1) (b_lf : (-1) ≤ lf.toInt ∧ lf.toInt ≤ 160) (b_npu : 0 ≤ npu.toInt ∧ npu.toInt ≤ 8) (b_nte : 4 ≤ nte.toInt ∧ nte.toInt ≤ 40) (b_nat_ : 0 ≤ nat_.toInt ∧ nat_.toInt ≤ 40) (b_nde : 0 ≤ nde.toInt ∧ nde.toInt ≤ 24) (b_nhu : 0 ≤ nhu.toInt ∧ nhu.toInt ≤ 9) (b_nra : 0 ≤ nra.toInt ∧ nra.toInt ≤ 2000) (b_nik : 0 ≤ nik.toInt ∧ nik.toInt ≤ 1) (hp_ghe : zRg ghe (0) 2) (hp_gso : zRg gso (0) 3) (hp_gsi : zRg gsi (0) 160) (hp_gsh : zRg gsh (-1) 7) (hp_he : zRg he (-1) 103) (hp_si : zRg si (0) 160) (hHS : zHS ghe gsh) (hik : (nik.toInt = 1 → zKp gke)) (hR : zRel he si fe ghe gso gsi gsh gce) (hcn : cn.toInt = npu.toInt) (hsz : sz.toInt = nte.toInt) (him : im.toInt = nik.toInt) (hlf : lf.toInt = nfa.toInt) (hkq : (nik.toInt = 1 → kcn.toInt = (gke 107).toInt ∧ ksz.toInt = (gke 108).toInt)) (hT : zTt fzl fzs gla gsl gp nga) (hTk : (nik.toInt = 1 → zTk_ fkzl fkzs gke kgp)) (hKI : zTp kf af tf gki gpa gta hu nhu) (hKk : (nik.toInt = 1 → zTq kkf kaf ktf gke khu)) (hNu : zNu de at_ se tr sd fjc nde nat_ nse nto nsd gco) (hNk : (nik.toInt = 1 → zNk kde kat kse ktr ksd fkc gke)) (nkc nks : Nat) (hkc : nkc ≤ 100 + 40 * (n + 1)) (hks : nks ≤ 10000 + 120 * (n + 1)) (H : Heap) (locs : List Loc) (hP : va_P D vwCl ([(x0, .inr (7, [.ref xs, .ref j0, .ref k0, .ref w0, .ref rd, .ref mv, .ref xr, .int im, .int lf])), (xs, .inl (cS, 8, .inr (.inr (.inr (.inr (zS sh)))))), (xr, .inl (cI, 8, .inl fxr)), (zMO m0 npu nte nat_ nde nto nse nhu nga nsd nfa mrf mki mpa mta mla msl mco mhe mso msi msh mce mca mwo mnu mte nba npl nen nnu nwr mwa mke mma mth mtr nra nik), (mrf, .inl (cI, 8, .inl grf)), (mhe, .inl (cI, 8, .inl ghe)), (mso, .inl (cI, 8, .inl gso)), (msi, .inl (cI, 8, .inl gsi)), (msh, .inl (cI, 8, .inl gsh)), (mce, .inl (cJ, 1280, .inr (.inl gce)))] ++ ((zShW cJ sh el he si fe ++ So) ++ po.1.map zPo)) H) (hD : va_D (fun q : Nat => s.heap.size ≤ q) ([(x0, .inr (7, [.ref xs, .ref j0, .ref k0, .ref w0, .ref rd, .ref mv, .ref xr, .int im, .int lf])), (xs, .inl (cS, 8, .inr (.inr (.inr (.inr (zS sh)))))), (xr, .inl (cI, 8, .inl fxr)), (zMO m0 npu nte nat_ nde nto nse nhu nga nsd nfa mrf mki mpa mta mla msl mco mhe mso msi msh mce mca mwo mnu mte nba npl nen nnu nwr mwa mke mma mth mtr nra nik), (mrf, .inl (cI, 8, .inl grf)), (mhe, .inl (cI, 8, .inl ghe)), (mso, .inl (cI, 8, .inl gso)), (msi, .inl (cI, 8, .inl gsi)), (msh, .inl (cI, 8, .inl gsh)), (mce, .inl (cJ, 1280, .inr (.inl gce)))] ++ ((zShW cJ sh el he si fe ++ So) ++ po.1.map zPo))) (hS : va_S (fun q : Nat => s.heap.size ≤ q) s.heap H locs) (ls : Array Slot) (hl : lv_has ls 4 [(3, .int i), (2, .ref m0), (1, .ref x0), (0, .ref b)]), W p l e room_1 s m #[Value.ref b] below meth c H locs nkc nks (lw_Z below #[Value.ref b] s) (F0 m 1370 ls [])) : W p l e room_1 s m #[Value.ref b] below meth c H locs nkc nks (lw_Z below #[Value.ref b] s) (F0 m 200 ls []) := by
  obtain ⟨hx, hb, hr, hml, hown0, hts, hX, hbl, hlocks, hgv⟩ := id C0
  have hown : s.vm.findClass RL = some m.cls := hown0
  have hA : ∀ q : Nat, s.heap.size ≤ q → (fun q : Nat => s.heap.size ≤ q) q := fun _ h => h
  have hbA : ¬ (fun q : Nat => s.heap.size ≤ q) b := Nat.not_le.mpr hbl
  obtain ⟨hNa, hNb, hNc, -⟩ := id hNu
  refine lv_aload_n hx hb dL_law_200 rfl (lv_at hl 2 rfl) ?_
  refine lv_aload_n hx hb dL_law_201 rfl (lv_at hl 3 rfl) ?_
  refine lv_iload_n hx hb dL_law_202 rfl (lv_at hl 0 rfl) ?_
  refine lv_iconst (v := 1) hx hb dL_law_203 (by decide) ?_
  refine lv_iadd hx hb dL_law_204 ?_
  refine lv_topi (fun x_1 ex_1 => ?_)
  have qx_1 : x_1.toInt = i.toInt + 1 := zLadd ex_1 (by decide) (by decide) (by decide) hi6 hn6 hL
  refine va_sld hx hb hX hbl hbA hS (zLin qx_1 (by decide) (by decide) hi6 hn6) dL_law_205 ?_
  refine lv_topi (fun a_3 ea_3 => ?_)
  refine lv_aload_n hx hb dL_law_206 rfl (lv_at hl 3 rfl) ?_
  refine lv_iload_n hx hb dL_law_207 rfl (lv_at hl 0 rfl) ?_
  refine lv_iconst (v := 2) hx hb dL_law_208 (by decide) ?_
  refine lv_iadd hx hb dL_law_209 ?_
  refine lv_topi (fun x_4 ex_4 => ?_)
  have qx_4 : x_4.toInt = i.toInt + 2 := zLadd ex_4 (by decide) (by decide) (by decide) hi6 hn6 hL
  refine va_sld hx hb hX hbl hbA hS (zLin qx_4 (by decide) (by decide) hi6 hn6) dL_law_210 ?_
  refine lv_topi (fun a_6 ea_6 => ?_)
  refine lv_aload_n hx hb dL_law_211 rfl (lv_at hl 3 rfl) ?_
  refine lv_iload_n hx hb dL_law_212 rfl (lv_at hl 0 rfl) ?_
  refine lv_iconst (v := 3) hx hb dL_law_213 (by decide) ?_
  refine lv_iadd hx hb dL_law_214 ?_
  refine lv_topi (fun x_7 ex_7 => ?_)
  have qx_7 : x_7.toInt = i.toInt + 3 := zLadd ex_7 (by decide) (by decide) (by decide) hi6 hn6 hL
  refine va_sld hx hb hX hbl hbA hS (zLin qx_7 (by decide) (by decide) hi6 hn6) dL_law_215 ?_
  refine lv_topi (fun a_9 ea_9 => ?_)
  obtain ⟨j_10, hj_10, qj_10, pj_10⟩ := zjq2 sh (a_3 : Int32)
  replace hP := zP_perm hP (zSo_pout hj_10 _ _ _)
  replace hD := zD_perm hD (zSo_pout hj_10 _ _ _)
  have bhe_j_10 := hp_he j_10
  have bsi_j_10 := hp_si j_10
  obtain ⟨he_j_10, ehe_j_10⟩ : ∃ z : Int32, z = he j_10 := ⟨_, rfl⟩
  obtain ⟨si_j_10, esi_j_10⟩ : ∃ z : Int32, z = si j_10 := ⟨_, rfl⟩
  rw [← ehe_j_10] at bhe_j_10
  rw [← esi_j_10] at bsi_j_10
  rw [← ehe_j_10, ← esi_j_10] at hP hD
  skip
  refine zt_V (As := [.int a_3, .int a_6, .int a_9]) (rest := []) (ws := [(x0, .inr (7, [.ref xs, .ref j0, .ref k0, .ref w0, .ref rd, .ref mv, .ref xr, .int im, .int lf])), (xs, .inl (cS, 8, .inr (.inr (.inr (.inr (zS sh)))))), (xr, .inl (cI, 8, .inl fxr)), (zMO m0 npu nte nat_ nde nto nse nhu nga nsd nfa mrf mki mpa mta mla msl mco mhe mso msi msh mce mca mwo mnu mte nba npl nen nnu nwr mwa mke mma mth mtr nra nik), (mrf, .inl (cI, 8, .inl grf)), (mhe, .inl (cI, 8, .inl ghe)), (mso, .inl (cI, 8, .inl gso)), (msi, .inl (cI, 8, .inl gsi)), (msh, .inl (cI, 8, .inl gsh)), (mce, .inl (cJ, 1280, .inr (.inl gce))), ((sh j_10), .inr (4, [.ref (el j_10), .int he_j_10, .int si_j_10])), ((el j_10), .inl (cJ, 160, .inr (.inl (fe j_10))))]) (wr := [(zMO m0 npu nte nat_ nde nto nse nhu nga nsd nfa mrf mki mpa mta mla msl mco mhe mso msi msh mce mca mwo mnu mte nba npl nen nnu nwr mwa mke mma mth mtr nra nik), (mrf, .inl (cI, 8, .inl grf)), (mhe, .inl (cI, 8, .inl ghe)), (mso, .inl (cI, 8, .inl gso)), (msi, .inl (cI, 8, .inl gsi)), (msh, .inl (cI, 8, .inl gsh)), (mce, .inl (cJ, 1280, .inr (.inl gce)))]) ⟨hx, hb, hml, hown, hts⟩ (c_F_X_row l D cI cJ cZ cP cS po x0 xs j0 k0 w0 rd mv xr (im) (lf) fxr ((zS sh)) (a_3) ((sh j_10)) ((el j_10)) (he_j_10) (si_j_10) ((fe j_10)) (a_6) (a_9) b_im.1 b_im.2 b_lf.1 b_lf.2 bhe_j_10.1 bhe_j_10.2 bsi_j_10.1 bsi_j_10.2 qj_10 H.size) (cwV 3 hts gq_13 rfl rfl rfl ⟨rfl, dh_X7_row⟩ ⟨Nat.le_of_ble_eq_true rfl, Nat.le_of_ble_eq_true rfl⟩) hK hN hP hD hS hA [0, 2, 1, 10, 11] [3, 4, 5, 6, 7, 8, 9] rfl rfl (by decide) (by decide) (by decide) (zE_law (isC := [0, 2, 1, 10, 11]) hz1 hz2 hP hD hS hA rfl hpr) (va_recv (q := (RX7, TX7, 9)) hK hP (ci := 7) (q0 := 0) rfl rfl) rfl hl.1 rfl (Nat.le_of_ble_eq_true rfl) dL_law_216 ⟨zRmC hkc hn6 hL (by decide), zRmS hks hn6 hL (by decide)⟩ (fun r_11 u_12 H locs hr_11 hP hD hS => ?_)
  obtain ⟨q_13, q_14, q_15, q_16⟩ := u_12
  try dsimp only at hr_11
  obtain ⟨hbq_13, hbq_14, hsr_11_0, hsr_11_1, hsr_11_2, hr_11⟩ := hr_11
  have h9R := zRe (ws' := ([(zMO m0 npu nte nat_ nde nto nse nhu nga nsd nfa mrf mki mpa mta mla msl mco mhe mso msi msh mce mca mwo mnu mte nba npl nen nnu nwr mwa mke mma mth mtr nra nik), (mrf, .inl (cI, 8, .inl grf)), (mhe, .inl (cI, 8, .inl ghe)), (mso, .inl (cI, 8, .inl gso)), (msi, .inl (cI, 8, .inl gsi)), (msh, .inl (cI, 8, .inl gsh)), (mce, .inl (cJ, 1280, .inr (.inl gce))), (x0, .inr (7, [.ref xs, .ref j0, .ref k0, .ref w0, .ref rd, .ref mv, .ref xr, .int im, .int lf])), (xr, .inl (cI, 8, .inl q_16)), (xs, .inl (cS, 8, .inr (.inr (.inr (.inr (zS sh)))))), ((sh j_10), .inr (4, [.ref (el j_10), .int q_13, .int q_14])), ((el j_10), .inl (cJ, 160, .inr (.inl q_15)))] ++ ((zShR cJ sh el he si fe j_10 ++ So) ++ po.1.map zPo))) hP hD rfl
  clear hP hD
  obtain ⟨hP, hD⟩ := h9R
  replace hP := zP_perm (show va_P D vwCl (([(zMO m0 npu nte nat_ nde nto nse nhu nga nsd nfa mrf mki mpa mta mla msl mco mhe mso msi msh mce mca mwo mnu mte nba npl nen nnu nwr mwa mke mma mth mtr nra nik), (mrf, .inl (cI, 8, .inl grf)), (mhe, .inl (cI, 8, .inl ghe)), (mso, .inl (cI, 8, .inl gso)), (msi, .inl (cI, 8, .inl gsi)), (msh, .inl (cI, 8, .inl gsh)), (mce, .inl (cJ, 1280, .inr (.inl gce))), (x0, .inr (7, [.ref xs, .ref j0, .ref k0, .ref w0, .ref rd, .ref mv, .ref xr, .int im, .int lf])), (xr, .inl (cI, 8, .inl q_16)), (xs, .inl (cS, 8, .inr (.inr (.inr (.inr (zS sh))))))] ++ [((sh j_10), .inr (4, [.ref (el j_10), .int q_13, .int q_14])), ((el j_10), .inl (cJ, 160, .inr (.inl q_15)))]) ++ ((zShR cJ sh el he si fe j_10 ++ So) ++ po.1.map zPo)) H from hP.part [0, 1, 2, 3, 4, 5, 6, 7, 8, 9, 10, 11] rfl) (zSo_pin hj_10 _ _ _ (q_13 : Int32) (q_14 : Int32) q_15)
  replace hD := zD_perm (show va_D (fun q : Nat => s.heap.size ≤ q) (([(zMO m0 npu nte nat_ nde nto nse nhu nga nsd nfa mrf mki mpa mta mla msl mco mhe mso msi msh mce mca mwo mnu mte nba npl nen nnu nwr mwa mke mma mth mtr nra nik), (mrf, .inl (cI, 8, .inl grf)), (mhe, .inl (cI, 8, .inl ghe)), (mso, .inl (cI, 8, .inl gso)), (msi, .inl (cI, 8, .inl gsi)), (msh, .inl (cI, 8, .inl gsh)), (mce, .inl (cJ, 1280, .inr (.inl gce))), (x0, .inr (7, [.ref xs, .ref j0, .ref k0, .ref w0, .ref rd, .ref mv, .ref xr, .int im, .int lf])), (xr, .inl (cI, 8, .inl q_16)), (xs, .inl (cS, 8, .inr (.inr (.inr (.inr (zS sh))))))] ++ [((sh j_10), .inr (4, [.ref (el j_10), .int q_13, .int q_14])), ((el j_10), .inl (cJ, 160, .inr (.inl q_15)))]) ++ ((zShR cJ sh el he si fe j_10 ++ So) ++ po.1.map zPo)) from hD.part [0, 1, 2, 3, 4, 5, 6, 7, 8, 9, 10, 11] (by decide +kernel) rfl) (zSo_pin hj_10 _ _ _ (q_13 : Int32) (q_14 : Int32) q_15)
  obtain ⟨he_17, ehe_17⟩ : ∃ z : Nat → Int32, z = va_up he j_10 (q_13 : Int32) := ⟨_, rfl⟩
  rw [← ehe_17] at hP hD
  have hp_he_17 : zRg he_17 (-1) 103 := by rw [ehe_17]; exact zRg_va hp_he hbq_13
  obtain ⟨si_18, esi_18⟩ : ∃ z : Nat → Int32, z = va_up si j_10 (q_14 : Int32) := ⟨_, rfl⟩
  rw [← esi_18] at hP hD
  have hp_si_18 : zRg si_18 (0) 160 := by rw [esi_18]; exact zRg_va hp_si hbq_14
  obtain ⟨fe_19, efe_19⟩ : ∃ z : Nat → Nat → Int64, z = va_up fe j_10 q_15 := ⟨_, rfl⟩
  rw [← efe_19] at hP hD
  have h9R := zRe (ws' := ([(zMO m0 npu nte nat_ nde nto nse nhu nga nsd nfa mrf mki mpa mta mla msl mco mhe mso msi msh mce mca mwo mnu mte nba npl nen nnu nwr mwa mke mma mth mtr nra nik), (mrf, .inl (cI, 8, .inl grf)), (mhe, .inl (cI, 8, .inl ghe)), (mso, .inl (cI, 8, .inl gso)), (msi, .inl (cI, 8, .inl gsi)), (msh, .inl (cI, 8, .inl gsh)), (mce, .inl (cJ, 1280, .inr (.inl gce))), (x0, .inr (7, [.ref xs, .ref j0, .ref k0, .ref w0, .ref rd, .ref mv, .ref xr, .int im, .int lf])), (xr, .inl (cI, 8, .inl q_16)), (xs, .inl (cS, 8, .inr (.inr (.inr (.inr (zS sh))))))] ++ ((zShW cJ sh el he_17 si_18 fe_19 ++ So) ++ po.1.map zPo))) hP hD rfl
  clear hP hD
  obtain ⟨hP, hD⟩ := h9R
  refine lv_pop hx hb dL_law_219 rfl ?_
  refine lv_aload_n hx hb dL_law_220 rfl (lv_at hl 1 rfl) ?_
  refine lv_aload_n hx hb dL_law_221 rfl (lv_at hl 3 rfl) ?_
  refine lv_iload_n hx hb dL_law_222 rfl (lv_at hl 0 rfl) ?_
  refine lv_iconst (v := 1) hx hb dL_law_223 (by decide) ?_
  refine lv_iadd hx hb dL_law_224 ?_
  refine lv_topi (fun y_20 ey_20 => ?_)
  obtain rfl : x_1 = y_20 := ex_1.trans ey_20.symm
  refine va_sld hx hb hX hbl hbA hS (zLin qx_1 (by decide) (by decide) hi6 hn6) dL_law_225 ?_
  refine lv_topi (fun y_21 ey_21 => ?_)
  obtain rfl : a_3 = y_21 := ea_3.trans ey_21.symm
  refine lv_aload_n hx hb dL_law_226 rfl (lv_at hl 3 rfl) ?_
  refine lv_iload_n hx hb dL_law_227 rfl (lv_at hl 0 rfl) ?_
  refine lv_iconst (v := 2) hx hb dL_law_228 (by decide) ?_
  refine lv_iadd hx hb dL_law_229 ?_
  refine lv_topi (fun y_22 ey_22 => ?_)
  obtain rfl : x_4 = y_22 := ex_4.trans ey_22.symm
  refine va_sld hx hb hX hbl hbA hS (zLin qx_4 (by decide) (by decide) hi6 hn6) dL_law_230 ?_
  refine lv_topi (fun y_23 ey_23 => ?_)
  obtain rfl : a_6 = y_23 := ea_6.trans ey_23.symm
  refine lv_aload_n hx hb dL_law_231 rfl (lv_at hl 3 rfl) ?_
  refine lv_iload_n hx hb dL_law_232 rfl (lv_at hl 0 rfl) ?_
  refine lv_iconst (v := 3) hx hb dL_law_233 (by decide) ?_
  refine lv_iadd hx hb dL_law_234 ?_
  refine lv_topi (fun y_24 ey_24 => ?_)
  obtain rfl : x_7 = y_24 := ex_7.trans ey_24.symm
  refine va_sld hx hb hX hbl hbA hS (zLin qx_7 (by decide) (by decide) hi6 hn6) dL_law_235 ?_
  refine lv_topi (fun y_25 ey_25 => ?_)
  obtain rfl : a_9 = y_25 := ea_9.trans ey_25.symm
  skip
  refine zt_V (As := [.int a_3, .int a_6, .int a_9]) (rest := []) (ws := [(zMO m0 npu nte nat_ nde nto nse nhu nga nsd nfa mrf mki mpa mta mla msl mco mhe mso msi msh mce mca mwo mnu mte nba npl nen nnu nwr mwa mke mma mth mtr nra nik), (mrf, .inl (cI, 8, .inl grf)), (mhe, .inl (cI, 8, .inl ghe)), (mso, .inl (cI, 8, .inl gso)), (msi, .inl (cI, 8, .inl gsi)), (msh, .inl (cI, 8, .inl gsh)), (mce, .inl (cJ, 1280, .inr (.inl gce))), (x0, .inr (7, [.ref xs, .ref j0, .ref k0, .ref w0, .ref rd, .ref mv, .ref xr, .int im, .int lf])), (xr, .inl (cI, 8, .inl q_16)), (xs, .inl (cS, 8, .inr (.inr (.inr (.inr (zS sh))))))]) (wr := [(x0, .inr (7, [.ref xs, .ref j0, .ref k0, .ref w0, .ref rd, .ref mv, .ref xr, .int im, .int lf])), (xr, .inl (cI, 8, .inl q_16)), (xs, .inl (cS, 8, .inr (.inr (.inr (.inr (zS sh))))))]) ⟨hx, hb, hml, hown, hts⟩ (c_F_M_row l D cI cJ cZ cP cS po m0 mrf mki mpa mta mla msl mco mhe mso msi msh mce mca mwo mnu mte mwa mke mma mth mtr (npu) (nte) (nat_) (nde) (nto) (nse) (nhu) (nga) (nsd) (nfa) (nba) (npl) (nen) (nnu) (nwr) (nra) (nik) grf ghe gso gsi gsh gce (a_3) (a_6) (a_9) b_npu.1 b_npu.2 b_nte.1 b_nte.2 b_nat_.1 b_nat_.2 b_nde.1 b_nde.2 b_nhu.1 b_nhu.2 b_nra.1 b_nra.2 b_nik.1 b_nik.2 hHS hp_ghe hp_gso hp_gsi hp_gsh H.size) (cwV 3 hts gq_17 rfl rfl rfl ⟨rfl, dh_X8_row⟩ ⟨Nat.le_of_ble_eq_true rfl, Nat.le_of_ble_eq_true rfl⟩) hK hN hP hD hS hA [0, 1, 2, 3, 4, 5, 6] [7, 8, 9] rfl rfl (by decide) (by decide) (by decide) (zE_law (isC := [0, 1, 2, 3, 4, 5, 6]) hz1 hz2 hP hD hS hA rfl hpr) (va_recv (q := (RX8, TX8, 38)) hK hP (ci := 8) (q0 := 0) rfl rfl) rfl hl.1 rfl (Nat.le_of_ble_eq_true rfl) dL_law_236 ⟨zRmC hkc hn6 hL (by decide), zRmS hks hn6 hL (by decide)⟩ (fun r_26 u_27 H locs hr_26 hP hD hS => ?_)
  obtain ⟨q_28, q_29, q_30, q_31, q_32⟩ := u_27
  try dsimp only at hr_26
  obtain ⟨hpq_29, hpq_30, hpq_31, hsr_26_0, hsr_26_1, hsr_26_2, hsr_26_3, hr_26⟩ := hr_26
  have h9R := zRe (ws' := ([(x0, .inr (7, [.ref xs, .ref j0, .ref k0, .ref w0, .ref rd, .ref mv, .ref xr, .int im, .int lf])), (xr, .inl (cI, 8, .inl q_16)), (xs, .inl (cS, 8, .inr (.inr (.inr (.inr (zS sh)))))), (zMO m0 npu nte nat_ nde nto nse nhu nga nsd nfa mrf mki mpa mta mla msl mco mhe mso msi msh mce mca mwo mnu mte nba npl nen nnu nwr mwa mke mma mth mtr nra nik), (mrf, .inl (cI, 8, .inl q_28)), (mhe, .inl (cI, 8, .inl q_29)), (mso, .inl (cI, 8, .inl q_30)), (msi, .inl (cI, 8, .inl q_31)), (msh, .inl (cI, 8, .inl gsh)), (mce, .inl (cJ, 1280, .inr (.inl q_32)))] ++ ((zShW cJ sh el he_17 si_18 fe_19 ++ So) ++ po.1.map zPo))) hP hD rfl
  clear hP hD
  obtain ⟨hP, hD⟩ := h9R
  have hR9 : zRel he_17 si_18 fe_19 q_29 q_30 q_31 gsh q_32 := by rw [ehe_17, esi_18, efe_19]; exact zRel_row hR pj_10 hsr_11_0 hsr_11_1 (fun h => by have z := hsr_11_2 h; rw [ehe_j_10, esi_j_10] at z; exact z) hsr_26_0 hsr_26_2 hsr_26_3
  refine lv_pop hx hb dL_law_239 rfl ?_
  refine lv_goto (tgt := 1370) hx hb dL_law_240 (by decide) ?_
  exact hnx im lf npu nte nat_ nde nto nse nhu nga nsd nfa nba npl nen nnu nwr nra nik q_16 q_28 q_29 q_30 q_31 gsh he_17 si_18 q_32 fe_19 b_im b_lf b_npu b_nte b_nat_ b_nde b_nhu b_nra b_nik hpq_29 hpq_30 hpq_31 hp_gsh hp_he_17 hp_si_18 hsr_26_1 hik hR9 hcn hsz him hlf hkq hT hTk hKI hKk hNu hNk _ _ (zRmN hkc) (zRmM hks) H locs (hP.part [0, 2, 1, 3, 4, 5, 6, 7, 8, 9] rfl) (hD.part [0, 2, 1, 3, 4, 5, 6, 7, 8, 9] (by decide +kernel) rfl) hS ls (lv_sub hl [0, 1, 2, 3] rfl)
set_option maxHeartbeats 16000000 in
set_option maxRecDepth 200000 in
theorem law_core_1 {p : Program} {l : Launch} {e : Env} {s : State} {m : MethodId} {below : List Frame} {meth : Method} {c : Code} {D : va_G} {cI cJ cZ cP cS : ClassId} {b L : Nat} {xs_ : Nat → Int32} (x0 xs j0 k0 w0 rd mv xr m0 mrf mki mpa mta mla msl mco mhe mso msi msh mce mca mwo mnu mte mwa mke mma mth mtr : Nat) (sh el : Nat → Nat) {So : va_W} (n nkc nks : Nat) (i : Int32) (po : zPool) (im lf cn de tr se hu sd sz at_ gp kcn kde ktr kse khu ksd ksz kat kgp npu nte nat_ nde nto nse nhu nga nsd nfa nba npl nen nnu nwr nra nik : Int32) (fzl fzs fjc fkzl fkzs fkc fxr grf gki gpa gta gla gsl gco ghe gso gsi gsh gke he si kf af tf kkf kaf ktf : Nat → Int32) (gce : Nat → Int64) (fe : Nat → Nat → Int64) (C0 : lw_At p s m meth c b L xs_) (hK : va_K D vwCl (zKT cI cJ cZ cP cS) s) (hN : zN s) (hz1 : zSt (fun q : Nat => s.heap.size ≤ q) s s.heap) (hL : L ≤ 3072) (b_im : 0 ≤ im.toInt ∧ im.toInt ≤ 1) (b_lf : (-1) ≤ lf.toInt ∧ lf.toInt ≤ 160) (b_npu : 0 ≤ npu.toInt ∧ npu.toInt ≤ 8) (b_nte : 4 ≤ nte.toInt ∧ nte.toInt ≤ 40) (b_nat_ : 0 ≤ nat_.toInt ∧ nat_.toInt ≤ 40) (b_nde : 0 ≤ nde.toInt ∧ nde.toInt ≤ 24) (b_nhu : 0 ≤ nhu.toInt ∧ nhu.toInt ≤ 9) (b_nra : 0 ≤ nra.toInt ∧ nra.toInt ≤ 2000) (b_nik : 0 ≤ nik.toInt ∧ nik.toInt ≤ 1) (hp_ghe : zRg ghe (0) 2) (hp_gso : zRg gso (0) 3) (hp_gsi : zRg gsi (0) 160) (hp_he : zRg he (-1) 103) (hp_si : zRg si (0) 160) (hHS : zHS ghe gsh) (hik : (nik.toInt = 1 → zKp gke)) (hR : zRel he si fe ghe gso gsi gsh gce) (hcn : cn.toInt = npu.toInt) (hsz : sz.toInt = nte.toInt) (him : im.toInt = nik.toInt) (hlf : lf.toInt = nfa.toInt) (hkq : (nik.toInt = 1 → kcn.toInt = (gke 107).toInt ∧ ksz.toInt = (gke 108).toInt)) (hT : zTt fzl fzs gla gsl gp nga) (hTk : (nik.toInt = 1 → zTk_ fkzl fkzs gke kgp)) (hKI : zTp kf af tf gki gpa gta hu nhu) (hKk : (nik.toInt = 1 → zTq kkf kaf ktf gke khu)) (hNu : zNu de at_ se tr sd fjc nde nat_ nse nto nsd gco) (hNk : (nik.toInt = 1 → zNk kde kat kse ktr ksd fkc gke)) (hz2 : zStr po (fun q : Nat => s.heap.size ≤ q) s s.heap) (hpr : ∀ z ∈ po.1, zPr z.2.1 z.2.2.1 z.2.2.2) (hkc : nkc ≤ 100 + 40 * n) (hks : nks ≤ 10000 + 120 * n) (hi6 : i.toInt = 6 * (n : Int)) (hn6 : 6 * (n : Int) + 6 ≤ (L : Int)) (H : Heap) (locs : List Loc) (hP : va_P D vwCl ([(x0, .inr (7, [.ref xs, .ref j0, .ref k0, .ref w0, .ref rd, .ref mv, .ref xr, .int im, .int lf])), (xs, .inl (cS, 8, .inr (.inr (.inr (.inr (zS sh)))))), (xr, .inl (cI, 8, .inl fxr)), (zMO m0 npu nte nat_ nde nto nse nhu nga nsd nfa mrf mki mpa mta mla msl mco mhe mso msi msh mce mca mwo mnu mte nba npl nen nnu nwr mwa mke mma mth mtr nra nik), (mrf, .inl (cI, 8, .inl grf)), (mhe, .inl (cI, 8, .inl ghe)), (mso, .inl (cI, 8, .inl gso)), (msi, .inl (cI, 8, .inl gsi)), (mce, .inl (cJ, 1280, .inr (.inl gce)))] ++ ((zShW cJ sh el he si fe ++ So) ++ po.1.map zPo)) H) (hD : va_D (fun q : Nat => s.heap.size ≤ q) ([(x0, .inr (7, [.ref xs, .ref j0, .ref k0, .ref w0, .ref rd, .ref mv, .ref xr, .int im, .int lf])), (xs, .inl (cS, 8, .inr (.inr (.inr (.inr (zS sh)))))), (xr, .inl (cI, 8, .inl fxr)), (zMO m0 npu nte nat_ nde nto nse nhu nga nsd nfa mrf mki mpa mta mla msl mco mhe mso msi msh mce mca mwo mnu mte nba npl nen nnu nwr mwa mke mma mth mtr nra nik), (mrf, .inl (cI, 8, .inl grf)), (mhe, .inl (cI, 8, .inl ghe)), (mso, .inl (cI, 8, .inl gso)), (msi, .inl (cI, 8, .inl gsi)), (mce, .inl (cJ, 1280, .inr (.inl gce)))] ++ ((zShW cJ sh el he si fe ++ So) ++ po.1.map zPo))) (hS : va_S (fun q : Nat => s.heap.size ≤ q) s.heap H locs) (ls : Array Slot) (hl : lv_has ls 4 [(3, .int i), (2, .ref m0), (1, .ref x0), (0, .ref b)]) (hnx : ∀ (im lf npu nte nat_ nde nto nse nhu nga nsd nfa nba npl nen nnu nwr nra nik : Int32) (fxr grf ghe gso gsi he si : Nat → Int32) (gce : Nat → Int64) (fe : Nat → Nat → Int64) (b_im : 0 ≤ im.toInt ∧ im.toInt ≤ 1) (b_lf : (-1) ≤ lf.toInt ∧ lf.toInt ≤ 160) (b_npu : 0 ≤ npu.toInt ∧ npu.toInt ≤ 8) (b_nte : 4 ≤ nte.toInt ∧ nte.toInt ≤ 40) (b_nat_ : 0 ≤ nat_.toInt ∧ nat_.toInt ≤ 40) (b_nde : 0 ≤ nde.toInt ∧ nde.toInt ≤ 24) (b_nhu : 0 ≤ nhu.toInt ∧ nhu.toInt ≤ 9) (b_nra : 0 ≤ nra.toInt ∧ nra.toInt ≤ 2000) (b_nik : 0 ≤ nik.toInt ∧ nik.toInt ≤ 1) (hp_ghe : zRg ghe (0) 2) (hp_gso : zRg gso (0) 3) (hp_gsi : zRg gsi (0) 160) (hp_he : zRg he (-1) 103) (hp_si : zRg si (0) 160) (hHS : zHS ghe gsh) (hik : (nik.toInt = 1 → zKp gke)) (hR : zRel he si fe ghe gso gsi gsh gce) (hcn : cn.toInt = npu.toInt) (hsz : sz.toInt = nte.toInt) (him : im.toInt = nik.toInt) (hlf : lf.toInt = nfa.toInt) (hkq : (nik.toInt = 1 → kcn.toInt = (gke 107).toInt ∧ ksz.toInt = (gke 108).toInt)) (hT : zTt fzl fzs gla gsl gp nga) (hTk : (nik.toInt = 1 → zTk_ fkzl fkzs gke kgp)) (hKI : zTp kf af tf gki gpa gta hu nhu) (hKk : (nik.toInt = 1 → zTq kkf kaf ktf gke khu)) (hNu : zNu de at_ se tr sd fjc nde nat_ nse nto nsd gco) (hNk : (nik.toInt = 1 → zNk kde kat kse ktr ksd fkc gke)) (nkc nks : Nat) (hkc : nkc ≤ 100 + 40 * (n + 1)) (hks : nks ≤ 10000 + 120 * (n + 1)) (H : Heap) (locs : List Loc) (hP : va_P D vwCl ([(x0, .inr (7, [.ref xs, .ref j0, .ref k0, .ref w0, .ref rd, .ref mv, .ref xr, .int im, .int lf])), (xs, .inl (cS, 8, .inr (.inr (.inr (.inr (zS sh)))))), (xr, .inl (cI, 8, .inl fxr)), (zMO m0 npu nte nat_ nde nto nse nhu nga nsd nfa mrf mki mpa mta mla msl mco mhe mso msi msh mce mca mwo mnu mte nba npl nen nnu nwr mwa mke mma mth mtr nra nik), (mrf, .inl (cI, 8, .inl grf)), (mhe, .inl (cI, 8, .inl ghe)), (mso, .inl (cI, 8, .inl gso)), (msi, .inl (cI, 8, .inl gsi)), (mce, .inl (cJ, 1280, .inr (.inl gce)))] ++ ((zShW cJ sh el he si fe ++ So) ++ po.1.map zPo)) H) (hD : va_D (fun q : Nat => s.heap.size ≤ q) ([(x0, .inr (7, [.ref xs, .ref j0, .ref k0, .ref w0, .ref rd, .ref mv, .ref xr, .int im, .int lf])), (xs, .inl (cS, 8, .inr (.inr (.inr (.inr (zS sh)))))), (xr, .inl (cI, 8, .inl fxr)), (zMO m0 npu nte nat_ nde nto nse nhu nga nsd nfa mrf mki mpa mta mla msl mco mhe mso msi msh mce mca mwo mnu mte nba npl nen nnu nwr mwa mke mma mth mtr nra nik), (mrf, .inl (cI, 8, .inl grf)), (mhe, .inl (cI, 8, .inl ghe)), (mso, .inl (cI, 8, .inl gso)), (msi, .inl (cI, 8, .inl gsi)), (mce, .inl (cJ, 1280, .inr (.inl gce)))] ++ ((zShW cJ sh el he si fe ++ So) ++ po.1.map zPo))) (hS : va_S (fun q : Nat => s.heap.size ≤ q) s.heap H locs) (ls : Array Slot) (hl : lv_has ls 4 [(3, .int i), (2, .ref m0), (1, .ref x0), (0, .ref b)]), W p l e room_1 s m #[Value.ref b] below meth c H locs nkc nks (lw_Z below #[Value.ref b] s) (F0 m 1370 ls [])) : W p l e room_1 s m #[Value.ref b] below meth c H locs nkc nks (lw_Z below #[Value.ref b] s) (F0 m 243 ls []) := by
  obtain ⟨hx, hb, hr, hml, hown0, hts, hX, hbl, hlocks, hgv⟩ := id C0
  have hown : s.vm.findClass RL = some m.cls := hown0
  have hA : ∀ q : Nat, s.heap.size ≤ q → (fun q : Nat => s.heap.size ≤ q) q := fun _ h => h
  have hbA : ¬ (fun q : Nat => s.heap.size ≤ q) b := Nat.not_le.mpr hbl
  obtain ⟨hNa, hNb, hNc, -⟩ := id hNu
  refine lv_aload_n hx hb dL_law_243 rfl (lv_at hl 2 rfl) ?_
  refine lv_aload_n hx hb dL_law_244 rfl (lv_at hl 3 rfl) ?_
  refine lv_iload_n hx hb dL_law_245 rfl (lv_at hl 0 rfl) ?_
  refine lv_iconst (v := 1) hx hb dL_law_246 (by decide) ?_
  refine lv_iadd hx hb dL_law_247 ?_
  refine lv_topi (fun x_1 ex_1 => ?_)
  have qx_1 : x_1.toInt = i.toInt + 1 := zLadd ex_1 (by decide) (by decide) (by decide) hi6 hn6 hL
  refine va_sld hx hb hX hbl hbA hS (zLin qx_1 (by decide) (by decide) hi6 hn6) dL_law_248 ?_
  refine lv_topi (fun a_3 ea_3 => ?_)
  refine lv_aload_n hx hb dL_law_249 rfl (lv_at hl 3 rfl) ?_
  refine lv_iload_n hx hb dL_law_250 rfl (lv_at hl 0 rfl) ?_
  refine lv_iconst (v := 2) hx hb dL_law_251 (by decide) ?_
  refine lv_iadd hx hb dL_law_252 ?_
  refine lv_topi (fun x_4 ex_4 => ?_)
  have qx_4 : x_4.toInt = i.toInt + 2 := zLadd ex_4 (by decide) (by decide) (by decide) hi6 hn6 hL
  refine va_sld hx hb hX hbl hbA hS (zLin qx_4 (by decide) (by decide) hi6 hn6) dL_law_253 ?_
  refine lv_topi (fun a_6 ea_6 => ?_)
  refine lv_aload_n hx hb dL_law_254 rfl (lv_at hl 3 rfl) ?_
  refine lv_iload_n hx hb dL_law_255 rfl (lv_at hl 0 rfl) ?_
  refine lv_iconst (v := 3) hx hb dL_law_256 (by decide) ?_
  refine lv_iadd hx hb dL_law_257 ?_
  refine lv_topi (fun x_7 ex_7 => ?_)
  have qx_7 : x_7.toInt = i.toInt + 3 := zLadd ex_7 (by decide) (by decide) (by decide) hi6 hn6 hL
  refine va_sld hx hb hX hbl hbA hS (zLin qx_7 (by decide) (by decide) hi6 hn6) dL_law_258 ?_
  refine lv_topi (fun a_9 ea_9 => ?_)
  refine lv_i2l hx hb dL_law_259 rfl ?_
  refine lv_topl (fun y_10 ey_10 => ?_)
  refine lv_bipush (v := 32) hx hb dL_law_260 (by decide) ?_
  refine lv_lshl hx hb dL_law_262 rfl ?_
  refine lv_topl (fun y_11 ey_11 => ?_)
  refine lv_aload_n hx hb dL_law_263 rfl (lv_at hl 3 rfl) ?_
  refine lv_iload_n hx hb dL_law_264 rfl (lv_at hl 0 rfl) ?_
  refine lv_iconst (v := 4) hx hb dL_law_265 (by decide) ?_
  refine lv_iadd hx hb dL_law_266 ?_
  refine lv_topi (fun x_12 ex_12 => ?_)
  have qx_12 : x_12.toInt = i.toInt + 4 := zLadd ex_12 (by decide) (by decide) (by decide) hi6 hn6 hL
  refine va_sld hx hb hX hbl hbA hS (zLin qx_12 (by decide) (by decide) hi6 hn6) dL_law_267 ?_
  refine lv_topi (fun a_14 ea_14 => ?_)
  refine lv_i2l hx hb dL_law_268 rfl ?_
  refine lv_topl (fun y_15 ey_15 => ?_)
  refine lv_ldc2 (own := RL) (v := 4294967295) hx hb hown (hts (Cond.constantLong RL 18 (4294967295)) zg_98.1) dL_law_269 ?_
  refine lv_topl (fun y_16 ey_16 => ?_)
  refine lv_land hx hb dL_law_272 ?_
  refine lv_topl (fun y_17 ey_17 => ?_)
  refine lv_lor hx hb dL_law_273 ?_
  refine lv_topl (fun y_18 ey_18 => ?_)
  obtain ⟨j_19, hj_19, qj_19, pj_19⟩ := zjq2 sh (a_3 : Int32)
  replace hP := zP_perm hP (zSo_pout hj_19 _ _ _)
  replace hD := zD_perm hD (zSo_pout hj_19 _ _ _)
  have bhe_j_19 := hp_he j_19
  have bsi_j_19 := hp_si j_19
  obtain ⟨he_j_19, ehe_j_19⟩ : ∃ z : Int32, z = he j_19 := ⟨_, rfl⟩
  obtain ⟨si_j_19, esi_j_19⟩ : ∃ z : Int32, z = si j_19 := ⟨_, rfl⟩
  rw [← ehe_j_19] at bhe_j_19
  rw [← esi_j_19] at bsi_j_19
  rw [← ehe_j_19, ← esi_j_19] at hP hD
  skip
  refine zt_V (As := [.int a_3, .int a_6, .long y_18]) (rest := []) (ws := [(x0, .inr (7, [.ref xs, .ref j0, .ref k0, .ref w0, .ref rd, .ref mv, .ref xr, .int im, .int lf])), (xs, .inl (cS, 8, .inr (.inr (.inr (.inr (zS sh)))))), (xr, .inl (cI, 8, .inl fxr)), (zMO m0 npu nte nat_ nde nto nse nhu nga nsd nfa mrf mki mpa mta mla msl mco mhe mso msi msh mce mca mwo mnu mte nba npl nen nnu nwr mwa mke mma mth mtr nra nik), (mrf, .inl (cI, 8, .inl grf)), (mhe, .inl (cI, 8, .inl ghe)), (mso, .inl (cI, 8, .inl gso)), (msi, .inl (cI, 8, .inl gsi)), (mce, .inl (cJ, 1280, .inr (.inl gce))), ((sh j_19), .inr (4, [.ref (el j_19), .int he_j_19, .int si_j_19])), ((el j_19), .inl (cJ, 160, .inr (.inl (fe j_19))))]) (wr := [(zMO m0 npu nte nat_ nde nto nse nhu nga nsd nfa mrf mki mpa mta mla msl mco mhe mso msi msh mce mca mwo mnu mte nba npl nen nnu nwr mwa mke mma mth mtr nra nik), (mrf, .inl (cI, 8, .inl grf)), (mhe, .inl (cI, 8, .inl ghe)), (mso, .inl (cI, 8, .inl gso)), (msi, .inl (cI, 8, .inl gsi)), (mce, .inl (cJ, 1280, .inr (.inl gce)))]) ⟨hx, hb, hml, hown, hts⟩ (c_F_X_set l D cI cJ cZ cP cS po x0 xs j0 k0 w0 rd mv xr (im) (lf) fxr ((zS sh)) (a_3) ((sh j_19)) ((el j_19)) (he_j_19) (si_j_19) ((fe j_19)) (a_6) (y_18) b_im.1 b_im.2 b_lf.1 b_lf.2 bhe_j_19.1 bhe_j_19.2 bsi_j_19.1 bsi_j_19.2 qj_19 H.size) (cwV 3 hts gq_20 rfl rfl rfl ⟨rfl, dh_X7_set⟩ ⟨Nat.le_of_ble_eq_true rfl, Nat.le_of_ble_eq_true rfl⟩) hK hN hP hD hS hA [0, 2, 1, 9, 10] [3, 4, 5, 6, 7, 8] rfl rfl (by decide) (by decide) (by decide) (zE_law (isC := [0, 2, 1, 9, 10]) hz1 hz2 hP hD hS hA rfl hpr) (va_recv (q := (RX7, TX7, 9)) hK hP (ci := 7) (q0 := 0) rfl rfl) rfl hl.1 rfl (Nat.le_of_ble_eq_true rfl) dL_law_274 ⟨zRmC hkc hn6 hL (by decide), zRmS hks hn6 hL (by decide)⟩ (fun r_20 u_21 H locs hr_20 hP hD hS => ?_)
  obtain ⟨q_22, q_23⟩ := u_21
  try dsimp only at hr_20
  obtain ⟨hsr_20_0, hsr_20_1, hsr_20_2, hr_20⟩ := hr_20
  have h9R := zRe (ws' := ([(zMO m0 npu nte nat_ nde nto nse nhu nga nsd nfa mrf mki mpa mta mla msl mco mhe mso msi msh mce mca mwo mnu mte nba npl nen nnu nwr mwa mke mma mth mtr nra nik), (mrf, .inl (cI, 8, .inl grf)), (mhe, .inl (cI, 8, .inl ghe)), (mso, .inl (cI, 8, .inl gso)), (msi, .inl (cI, 8, .inl gsi)), (mce, .inl (cJ, 1280, .inr (.inl gce))), (x0, .inr (7, [.ref xs, .ref j0, .ref k0, .ref w0, .ref rd, .ref mv, .ref xr, .int im, .int lf])), (xr, .inl (cI, 8, .inl q_23)), (xs, .inl (cS, 8, .inr (.inr (.inr (.inr (zS sh)))))), ((sh j_19), .inr (4, [.ref (el j_19), .int he_j_19, .int si_j_19])), ((el j_19), .inl (cJ, 160, .inr (.inl q_22)))] ++ ((zShR cJ sh el he si fe j_19 ++ So) ++ po.1.map zPo))) hP hD rfl
  clear hP hD
  obtain ⟨hP, hD⟩ := h9R
  replace hP := zP_perm (show va_P D vwCl (([(zMO m0 npu nte nat_ nde nto nse nhu nga nsd nfa mrf mki mpa mta mla msl mco mhe mso msi msh mce mca mwo mnu mte nba npl nen nnu nwr mwa mke mma mth mtr nra nik), (mrf, .inl (cI, 8, .inl grf)), (mhe, .inl (cI, 8, .inl ghe)), (mso, .inl (cI, 8, .inl gso)), (msi, .inl (cI, 8, .inl gsi)), (mce, .inl (cJ, 1280, .inr (.inl gce))), (x0, .inr (7, [.ref xs, .ref j0, .ref k0, .ref w0, .ref rd, .ref mv, .ref xr, .int im, .int lf])), (xr, .inl (cI, 8, .inl q_23)), (xs, .inl (cS, 8, .inr (.inr (.inr (.inr (zS sh))))))] ++ [((sh j_19), .inr (4, [.ref (el j_19), .int he_j_19, .int si_j_19])), ((el j_19), .inl (cJ, 160, .inr (.inl q_22)))]) ++ ((zShR cJ sh el he si fe j_19 ++ So) ++ po.1.map zPo)) H from hP.part [0, 1, 2, 3, 4, 5, 6, 7, 8, 9, 10] rfl) (zSo_pin hj_19 _ _ _ (he_j_19 : Int32) (si_j_19 : Int32) q_22)
  replace hD := zD_perm (show va_D (fun q : Nat => s.heap.size ≤ q) (([(zMO m0 npu nte nat_ nde nto nse nhu nga nsd nfa mrf mki mpa mta mla msl mco mhe mso msi msh mce mca mwo mnu mte nba npl nen nnu nwr mwa mke mma mth mtr nra nik), (mrf, .inl (cI, 8, .inl grf)), (mhe, .inl (cI, 8, .inl ghe)), (mso, .inl (cI, 8, .inl gso)), (msi, .inl (cI, 8, .inl gsi)), (mce, .inl (cJ, 1280, .inr (.inl gce))), (x0, .inr (7, [.ref xs, .ref j0, .ref k0, .ref w0, .ref rd, .ref mv, .ref xr, .int im, .int lf])), (xr, .inl (cI, 8, .inl q_23)), (xs, .inl (cS, 8, .inr (.inr (.inr (.inr (zS sh))))))] ++ [((sh j_19), .inr (4, [.ref (el j_19), .int he_j_19, .int si_j_19])), ((el j_19), .inl (cJ, 160, .inr (.inl q_22)))]) ++ ((zShR cJ sh el he si fe j_19 ++ So) ++ po.1.map zPo)) from hD.part [0, 1, 2, 3, 4, 5, 6, 7, 8, 9, 10] (by decide +kernel) rfl) (zSo_pin hj_19 _ _ _ (he_j_19 : Int32) (si_j_19 : Int32) q_22)
  obtain ⟨he_24, ehe_24⟩ : ∃ z : Nat → Int32, z = va_up he j_19 (he_j_19 : Int32) := ⟨_, rfl⟩
  rw [← ehe_24] at hP hD
  have hp_he_24 : zRg he_24 (-1) 103 := by rw [ehe_24]; exact zRg_va hp_he bhe_j_19
  obtain ⟨si_25, esi_25⟩ : ∃ z : Nat → Int32, z = va_up si j_19 (si_j_19 : Int32) := ⟨_, rfl⟩
  rw [← esi_25] at hP hD
  have hp_si_25 : zRg si_25 (0) 160 := by rw [esi_25]; exact zRg_va hp_si bsi_j_19
  obtain ⟨fe_26, efe_26⟩ : ∃ z : Nat → Nat → Int64, z = va_up fe j_19 q_22 := ⟨_, rfl⟩
  rw [← efe_26] at hP hD
  have h9R := zRe (ws' := ([(zMO m0 npu nte nat_ nde nto nse nhu nga nsd nfa mrf mki mpa mta mla msl mco mhe mso msi msh mce mca mwo mnu mte nba npl nen nnu nwr mwa mke mma mth mtr nra nik), (mrf, .inl (cI, 8, .inl grf)), (mhe, .inl (cI, 8, .inl ghe)), (mso, .inl (cI, 8, .inl gso)), (msi, .inl (cI, 8, .inl gsi)), (mce, .inl (cJ, 1280, .inr (.inl gce))), (x0, .inr (7, [.ref xs, .ref j0, .ref k0, .ref w0, .ref rd, .ref mv, .ref xr, .int im, .int lf])), (xr, .inl (cI, 8, .inl q_23)), (xs, .inl (cS, 8, .inr (.inr (.inr (.inr (zS sh))))))] ++ ((zShW cJ sh el he_24 si_25 fe_26 ++ So) ++ po.1.map zPo))) hP hD rfl
  clear hP hD
  obtain ⟨hP, hD⟩ := h9R
  refine lv_pop hx hb dL_law_277 rfl ?_
  refine lv_aload_n hx hb dL_law_278 rfl (lv_at hl 1 rfl) ?_
  refine lv_aload_n hx hb dL_law_279 rfl (lv_at hl 3 rfl) ?_
  refine lv_iload_n hx hb dL_law_280 rfl (lv_at hl 0 rfl) ?_
  refine lv_iconst (v := 1) hx hb dL_law_281 (by decide) ?_
  refine lv_iadd hx hb dL_law_282 ?_
  refine lv_topi (fun y_27 ey_27 => ?_)
  obtain rfl : x_1 = y_27 := ex_1.trans ey_27.symm
  refine va_sld hx hb hX hbl hbA hS (zLin qx_1 (by decide) (by decide) hi6 hn6) dL_law_283 ?_
  refine lv_topi (fun y_28 ey_28 => ?_)
  obtain rfl : a_3 = y_28 := ea_3.trans ey_28.symm
  refine lv_aload_n hx hb dL_law_284 rfl (lv_at hl 3 rfl) ?_
  refine lv_iload_n hx hb dL_law_285 rfl (lv_at hl 0 rfl) ?_
  refine lv_iconst (v := 2) hx hb dL_law_286 (by decide) ?_
  refine lv_iadd hx hb dL_law_287 ?_
  refine lv_topi (fun y_29 ey_29 => ?_)
  obtain rfl : x_4 = y_29 := ex_4.trans ey_29.symm
  refine va_sld hx hb hX hbl hbA hS (zLin qx_4 (by decide) (by decide) hi6 hn6) dL_law_288 ?_
  refine lv_topi (fun y_30 ey_30 => ?_)
  obtain rfl : a_6 = y_30 := ea_6.trans ey_30.symm
  refine lv_aload_n hx hb dL_law_289 rfl (lv_at hl 3 rfl) ?_
  refine lv_iload_n hx hb dL_law_290 rfl (lv_at hl 0 rfl) ?_
  refine lv_iconst (v := 3) hx hb dL_law_291 (by decide) ?_
  refine lv_iadd hx hb dL_law_292 ?_
  refine lv_topi (fun y_31 ey_31 => ?_)
  obtain rfl : x_7 = y_31 := ex_7.trans ey_31.symm
  refine va_sld hx hb hX hbl hbA hS (zLin qx_7 (by decide) (by decide) hi6 hn6) dL_law_293 ?_
  refine lv_topi (fun y_32 ey_32 => ?_)
  obtain rfl : a_9 = y_32 := ea_9.trans ey_32.symm
  refine lv_i2l hx hb dL_law_294 rfl ?_
  refine lv_topl (fun y_33 ey_33 => ?_)
  obtain rfl : y_10 = y_33 := ey_10.trans ey_33.symm
  refine lv_bipush (v := 32) hx hb dL_law_295 (by decide) ?_
  refine lv_lshl hx hb dL_law_297 rfl ?_
  refine lv_topl (fun y_34 ey_34 => ?_)
  obtain rfl : y_11 = y_34 := ey_11.trans ey_34.symm
  refine lv_aload_n hx hb dL_law_298 rfl (lv_at hl 3 rfl) ?_
  refine lv_iload_n hx hb dL_law_299 rfl (lv_at hl 0 rfl) ?_
  refine lv_iconst (v := 4) hx hb dL_law_300 (by decide) ?_
  refine lv_iadd hx hb dL_law_301 ?_
  refine lv_topi (fun y_35 ey_35 => ?_)
  obtain rfl : x_12 = y_35 := ex_12.trans ey_35.symm
  refine va_sld hx hb hX hbl hbA hS (zLin qx_12 (by decide) (by decide) hi6 hn6) dL_law_302 ?_
  refine lv_topi (fun y_36 ey_36 => ?_)
  obtain rfl : a_14 = y_36 := ea_14.trans ey_36.symm
  refine lv_i2l hx hb dL_law_303 rfl ?_
  refine lv_topl (fun y_37 ey_37 => ?_)
  obtain rfl : y_15 = y_37 := ey_15.trans ey_37.symm
  refine lv_ldc2 (own := RL) (v := 4294967295) hx hb hown (hts (Cond.constantLong RL 18 (4294967295)) zg_98.1) dL_law_304 ?_
  refine lv_topl (fun y_38 ey_38 => ?_)
  obtain rfl : y_16 = y_38 := ey_16.trans ey_38.symm
  refine lv_land hx hb dL_law_307 ?_
  refine lv_topl (fun y_39 ey_39 => ?_)
  obtain rfl : y_17 = y_39 := ey_17.trans ey_39.symm
  refine lv_lor hx hb dL_law_308 ?_
  refine lv_topl (fun y_40 ey_40 => ?_)
  obtain rfl : y_18 = y_40 := ey_18.trans ey_40.symm
  skip
  refine zt_V (As := [.int a_3, .int a_6, .long y_18]) (rest := []) (ws := [(zMO m0 npu nte nat_ nde nto nse nhu nga nsd nfa mrf mki mpa mta mla msl mco mhe mso msi msh mce mca mwo mnu mte nba npl nen nnu nwr mwa mke mma mth mtr nra nik), (mrf, .inl (cI, 8, .inl grf)), (mhe, .inl (cI, 8, .inl ghe)), (mso, .inl (cI, 8, .inl gso)), (msi, .inl (cI, 8, .inl gsi)), (mce, .inl (cJ, 1280, .inr (.inl gce))), (x0, .inr (7, [.ref xs, .ref j0, .ref k0, .ref w0, .ref rd, .ref mv, .ref xr, .int im, .int lf])), (xr, .inl (cI, 8, .inl q_23)), (xs, .inl (cS, 8, .inr (.inr (.inr (.inr (zS sh))))))]) (wr := [(x0, .inr (7, [.ref xs, .ref j0, .ref k0, .ref w0, .ref rd, .ref mv, .ref xr, .int im, .int lf])), (xr, .inl (cI, 8, .inl q_23)), (xs, .inl (cS, 8, .inr (.inr (.inr (.inr (zS sh))))))]) ⟨hx, hb, hml, hown, hts⟩ (c_F_M_set l D cI cJ cZ cP cS po m0 mrf mki mpa mta mla msl mco mhe mso msi msh mce mca mwo mnu mte mwa mke mma mth mtr (npu) (nte) (nat_) (nde) (nto) (nse) (nhu) (nga) (nsd) (nfa) (nba) (npl) (nen) (nnu) (nwr) (nra) (nik) grf ghe gso gsi gce (a_3) (a_6) (y_18) b_npu.1 b_npu.2 b_nte.1 b_nte.2 b_nat_.1 b_nat_.2 b_nde.1 b_nde.2 b_nhu.1 b_nhu.2 b_nra.1 b_nra.2 b_nik.1 b_nik.2 hp_ghe hp_gso hp_gsi H.size) (cwV 3 hts gq_24 rfl rfl rfl ⟨rfl, dh_X8_set⟩ ⟨Nat.le_of_ble_eq_true rfl, Nat.le_of_ble_eq_true rfl⟩) hK hN hP hD hS hA [0, 1, 2, 3, 4, 5] [6, 7, 8] rfl rfl (by decide) (by decide) (by decide) (zE_law (isC := [0, 1, 2, 3, 4, 5]) hz1 hz2 hP hD hS hA rfl hpr) (va_recv (q := (RX8, TX8, 38)) hK hP (ci := 8) (q0 := 0) rfl rfl) rfl hl.1 rfl (Nat.le_of_ble_eq_true rfl) dL_law_309 ⟨zRmC hkc hn6 hL (by decide), zRmS hks hn6 hL (by decide)⟩ (fun r_41 u_42 H locs hr_41 hP hD hS => ?_)
  obtain ⟨q_43, q_44⟩ := u_42
  try dsimp only at hr_41
  obtain ⟨hsr_41_0, hsr_41_1, hsr_41_2, hr_41⟩ := hr_41
  have h9R := zRe (ws' := ([(x0, .inr (7, [.ref xs, .ref j0, .ref k0, .ref w0, .ref rd, .ref mv, .ref xr, .int im, .int lf])), (xr, .inl (cI, 8, .inl q_23)), (xs, .inl (cS, 8, .inr (.inr (.inr (.inr (zS sh)))))), (zMO m0 npu nte nat_ nde nto nse nhu nga nsd nfa mrf mki mpa mta mla msl mco mhe mso msi msh mce mca mwo mnu mte nba npl nen nnu nwr mwa mke mma mth mtr nra nik), (mrf, .inl (cI, 8, .inl q_43)), (mhe, .inl (cI, 8, .inl ghe)), (mso, .inl (cI, 8, .inl gso)), (msi, .inl (cI, 8, .inl gsi)), (mce, .inl (cJ, 1280, .inr (.inl q_44)))] ++ ((zShW cJ sh el he_24 si_25 fe_26 ++ So) ++ po.1.map zPo))) hP hD rfl
  clear hP hD
  obtain ⟨hP, hD⟩ := h9R
  obtain ⟨hA, hR8⟩ := zRel_set hR hHS hp_ghe hp_gso hp_si hj_19 pj_19 (by rw [← ehe_j_19, ← esi_j_19]; exact hsr_20_0) (by rw [← ehe_j_19]; exact hsr_20_1) hsr_20_2 hsr_41_0 hsr_41_1 hsr_41_2
  have hR9 : zRel he_24 si_25 fe_26 ghe gso gsi gsh q_44 := by rw [ehe_24, esi_25, efe_26, ehe_j_19, esi_j_19, zUpS, zUpS]; exact hR8
  refine lv_pop hx hb dL_law_312 rfl ?_
  refine lv_goto (tgt := 1370) hx hb dL_law_313 (by decide) ?_
  exact hnx im lf npu nte nat_ nde nto nse nhu nga nsd nfa nba npl nen nnu nwr nra nik q_23 q_43 ghe gso gsi he_24 si_25 q_44 fe_26 b_im b_lf b_npu b_nte b_nat_ b_nde b_nhu b_nra b_nik hp_ghe hp_gso hp_gsi hp_he_24 hp_si_25 hHS hik hR9 hcn hsz him hlf hkq hT hTk hKI hKk hNu hNk _ _ (zRmN hkc) (zRmM hks) H locs (hP.part [0, 2, 1, 3, 4, 5, 6, 7, 8] rfl) (hD.part [0, 2, 1, 3, 4, 5, 6, 7, 8] (by decide +kernel) rfl) hS ls (lv_sub hl [0, 1, 2, 3] rfl)
set_option maxHeartbeats 16000000 in
set_option maxRecDepth 200000 in
theorem law_core_2 {p : Program} {l : Launch} {e : Env} {s : State} {m : MethodId} {below : List Frame} {meth : Method} {c : Code} {D : va_G} {cI cJ cZ cP cS : ClassId} {b L : Nat} {xs_ : Nat → Int32} (x0 xs j0 k0 w0 rd mv xr m0 mrf mki mpa mta mla msl mco mhe mso msi msh mce mca mwo mnu mte mwa mke mma mth mtr : Nat) (sh el : Nat → Nat) {So : va_W} (n nkc nks : Nat) (i : Int32) (po : zPool) (im lf cn de tr se hu sd sz at_ gp kcn kde ktr kse khu ksd ksz kat kgp npu nte nat_ nde nto nse nhu nga nsd nfa nba npl nen nnu nwr nra nik : Int32) (fzl fzs fjc fkzl fkzs fkc fxr grf gki gpa gta gla gsl gco ghe gso gsi gsh gke he si kf af tf kkf kaf ktf : Nat → Int32) (gce gca : Nat → Int64) (fe : Nat → Nat → Int64) (C0 : lw_At p s m meth c b L xs_) (hK : va_K D vwCl (zKT cI cJ cZ cP cS) s) (hN : zN s) (hz1 : zSt (fun q : Nat => s.heap.size ≤ q) s s.heap) (hL : L ≤ 3072) (b_im : 0 ≤ im.toInt ∧ im.toInt ≤ 1) (b_lf : (-1) ≤ lf.toInt ∧ lf.toInt ≤ 160) (b_npu : 0 ≤ npu.toInt ∧ npu.toInt ≤ 8) (b_nte : 4 ≤ nte.toInt ∧ nte.toInt ≤ 40) (b_nat_ : 0 ≤ nat_.toInt ∧ nat_.toInt ≤ 40) (b_nde : 0 ≤ nde.toInt ∧ nde.toInt ≤ 24) (b_nhu : 0 ≤ nhu.toInt ∧ nhu.toInt ≤ 9) (b_nra : 0 ≤ nra.toInt ∧ nra.toInt ≤ 2000) (b_nik : 0 ≤ nik.toInt ∧ nik.toInt ≤ 1) (hp_ghe : zRg ghe (0) 2) (hp_gso : zRg gso (0) 3) (hp_gsi : zRg gsi (0) 160) (hp_he : zRg he (-1) 103) (hp_si : zRg si (0) 160) (hHS : zHS ghe gsh) (hik : (nik.toInt = 1 → zKp gke)) (hR : zRel he si fe ghe gso gsi gsh gce) (hcn : cn.toInt = npu.toInt) (hsz : sz.toInt = nte.toInt) (him : im.toInt = nik.toInt) (hlf : lf.toInt = nfa.toInt) (hkq : (nik.toInt = 1 → kcn.toInt = (gke 107).toInt ∧ ksz.toInt = (gke 108).toInt)) (hT : zTt fzl fzs gla gsl gp nga) (hTk : (nik.toInt = 1 → zTk_ fkzl fkzs gke kgp)) (hKI : zTp kf af tf gki gpa gta hu nhu) (hKk : (nik.toInt = 1 → zTq kkf kaf ktf gke khu)) (hNu : zNu de at_ se tr sd fjc nde nat_ nse nto nsd gco) (hNk : (nik.toInt = 1 → zNk kde kat kse ktr ksd fkc gke)) (hz2 : zStr po (fun q : Nat => s.heap.size ≤ q) s s.heap) (hpr : ∀ z ∈ po.1, zPr z.2.1 z.2.2.1 z.2.2.2) (hkc : nkc ≤ 100 + 40 * n) (hks : nks ≤ 10000 + 120 * n) (hi6 : i.toInt = 6 * (n : Int)) (hn6 : 6 * (n : Int) + 6 ≤ (L : Int)) (H : Heap) (locs : List Loc) (hP : va_P D vwCl ([(x0, .inr (7, [.ref xs, .ref j0, .ref k0, .ref w0, .ref rd, .ref mv, .ref xr, .int im, .int lf])), (xs, .inl (cS, 8, .inr (.inr (.inr (.inr (zS sh)))))), (xr, .inl (cI, 8, .inl fxr)), (zMO m0 npu nte nat_ nde nto nse nhu nga nsd nfa mrf mki mpa mta mla msl mco mhe mso msi msh mce mca mwo mnu mte nba npl nen nnu nwr mwa mke mma mth mtr nra nik), (mrf, .inl (cI, 8, .inl grf)), (mhe, .inl (cI, 8, .inl ghe)), (mso, .inl (cI, 8, .inl gso)), (msi, .inl (cI, 8, .inl gsi)), (mce, .inl (cJ, 1280, .inr (.inl gce))), (mca, .inl (cJ, 160, .inr (.inl gca)))] ++ ((zShW cJ sh el he si fe ++ So) ++ po.1.map zPo)) H) (hD : va_D (fun q : Nat => s.heap.size ≤ q) ([(x0, .inr (7, [.ref xs, .ref j0, .ref k0, .ref w0, .ref rd, .ref mv, .ref xr, .int im, .int lf])), (xs, .inl (cS, 8, .inr (.inr (.inr (.inr (zS sh)))))), (xr, .inl (cI, 8, .inl fxr)), (zMO m0 npu nte nat_ nde nto nse nhu nga nsd nfa mrf mki mpa mta mla msl mco mhe mso msi msh mce mca mwo mnu mte nba npl nen nnu nwr mwa mke mma mth mtr nra nik), (mrf, .inl (cI, 8, .inl grf)), (mhe, .inl (cI, 8, .inl ghe)), (mso, .inl (cI, 8, .inl gso)), (msi, .inl (cI, 8, .inl gsi)), (mce, .inl (cJ, 1280, .inr (.inl gce))), (mca, .inl (cJ, 160, .inr (.inl gca)))] ++ ((zShW cJ sh el he si fe ++ So) ++ po.1.map zPo))) (hS : va_S (fun q : Nat => s.heap.size ≤ q) s.heap H locs) (ls : Array Slot) (hl : lv_has ls 4 [(3, .int i), (2, .ref m0), (1, .ref x0), (0, .ref b)]) (hnx : ∀ (im lf npu nte nat_ nde nto nse nhu nga nsd nfa nba npl nen nnu nwr nra nik : Int32) (fxr grf ghe gso gsi he si : Nat → Int32) (gce gca : Nat → Int64) (fe : Nat → Nat → Int64) (b_im : 0 ≤ im.toInt ∧ im.toInt ≤ 1) (b_lf : (-1) ≤ lf.toInt ∧ lf.toInt ≤ 160) (b_npu : 0 ≤ npu.toInt ∧ npu.toInt ≤ 8) (b_nte : 4 ≤ nte.toInt ∧ nte.toInt ≤ 40) (b_nat_ : 0 ≤ nat_.toInt ∧ nat_.toInt ≤ 40) (b_nde : 0 ≤ nde.toInt ∧ nde.toInt ≤ 24) (b_nhu : 0 ≤ nhu.toInt ∧ nhu.toInt ≤ 9) (b_nra : 0 ≤ nra.toInt ∧ nra.toInt ≤ 2000) (b_nik : 0 ≤ nik.toInt ∧ nik.toInt ≤ 1) (hp_ghe : zRg ghe (0) 2) (hp_gso : zRg gso (0) 3) (hp_gsi : zRg gsi (0) 160) (hp_he : zRg he (-1) 103) (hp_si : zRg si (0) 160) (hHS : zHS ghe gsh) (hik : (nik.toInt = 1 → zKp gke)) (hR : zRel he si fe ghe gso gsi gsh gce) (hcn : cn.toInt = npu.toInt) (hsz : sz.toInt = nte.toInt) (him : im.toInt = nik.toInt) (hlf : lf.toInt = nfa.toInt) (hkq : (nik.toInt = 1 → kcn.toInt = (gke 107).toInt ∧ ksz.toInt = (gke 108).toInt)) (hT : zTt fzl fzs gla gsl gp nga) (hTk : (nik.toInt = 1 → zTk_ fkzl fkzs gke kgp)) (hKI : zTp kf af tf gki gpa gta hu nhu) (hKk : (nik.toInt = 1 → zTq kkf kaf ktf gke khu)) (hNu : zNu de at_ se tr sd fjc nde nat_ nse nto nsd gco) (hNk : (nik.toInt = 1 → zNk kde kat kse ktr ksd fkc gke)) (nkc nks : Nat) (hkc : nkc ≤ 100 + 40 * (n + 1)) (hks : nks ≤ 10000 + 120 * (n + 1)) (H : Heap) (locs : List Loc) (hP : va_P D vwCl ([(x0, .inr (7, [.ref xs, .ref j0, .ref k0, .ref w0, .ref rd, .ref mv, .ref xr, .int im, .int lf])), (xs, .inl (cS, 8, .inr (.inr (.inr (.inr (zS sh)))))), (xr, .inl (cI, 8, .inl fxr)), (zMO m0 npu nte nat_ nde nto nse nhu nga nsd nfa mrf mki mpa mta mla msl mco mhe mso msi msh mce mca mwo mnu mte nba npl nen nnu nwr mwa mke mma mth mtr nra nik), (mrf, .inl (cI, 8, .inl grf)), (mhe, .inl (cI, 8, .inl ghe)), (mso, .inl (cI, 8, .inl gso)), (msi, .inl (cI, 8, .inl gsi)), (mce, .inl (cJ, 1280, .inr (.inl gce))), (mca, .inl (cJ, 160, .inr (.inl gca)))] ++ ((zShW cJ sh el he si fe ++ So) ++ po.1.map zPo)) H) (hD : va_D (fun q : Nat => s.heap.size ≤ q) ([(x0, .inr (7, [.ref xs, .ref j0, .ref k0, .ref w0, .ref rd, .ref mv, .ref xr, .int im, .int lf])), (xs, .inl (cS, 8, .inr (.inr (.inr (.inr (zS sh)))))), (xr, .inl (cI, 8, .inl fxr)), (zMO m0 npu nte nat_ nde nto nse nhu nga nsd nfa mrf mki mpa mta mla msl mco mhe mso msi msh mce mca mwo mnu mte nba npl nen nnu nwr mwa mke mma mth mtr nra nik), (mrf, .inl (cI, 8, .inl grf)), (mhe, .inl (cI, 8, .inl ghe)), (mso, .inl (cI, 8, .inl gso)), (msi, .inl (cI, 8, .inl gsi)), (mce, .inl (cJ, 1280, .inr (.inl gce))), (mca, .inl (cJ, 160, .inr (.inl gca)))] ++ ((zShW cJ sh el he si fe ++ So) ++ po.1.map zPo))) (hS : va_S (fun q : Nat => s.heap.size ≤ q) s.heap H locs) (ls : Array Slot) (hl : lv_has ls 4 [(3, .int i), (2, .ref m0), (1, .ref x0), (0, .ref b)]), W p l e room_1 s m #[Value.ref b] below meth c H locs nkc nks (lw_Z below #[Value.ref b] s) (F0 m 1370 ls [])) : W p l e room_1 s m #[Value.ref b] below meth c H locs nkc nks (lw_Z below #[Value.ref b] s) (F0 m 316 ls []) := by
  obtain ⟨hx, hb, hr, hml, hown0, hts, hX, hbl, hlocks, hgv⟩ := id C0
  have hown : s.vm.findClass RL = some m.cls := hown0
  have hA : ∀ q : Nat, s.heap.size ≤ q → (fun q : Nat => s.heap.size ≤ q) q := fun _ h => h
  have hbA : ¬ (fun q : Nat => s.heap.size ≤ q) b := Nat.not_le.mpr hbl
  obtain ⟨hNa, hNb, hNc, -⟩ := id hNu
  refine lv_aload_n hx hb dL_law_316 rfl (lv_at hl 2 rfl) ?_
  refine lv_aload_n hx hb dL_law_317 rfl (lv_at hl 3 rfl) ?_
  refine lv_iload_n hx hb dL_law_318 rfl (lv_at hl 0 rfl) ?_
  refine lv_iconst (v := 1) hx hb dL_law_319 (by decide) ?_
  refine lv_iadd hx hb dL_law_320 ?_
  refine lv_topi (fun x_1 ex_1 => ?_)
  have qx_1 : x_1.toInt = i.toInt + 1 := zLadd ex_1 (by decide) (by decide) (by decide) hi6 hn6 hL
  refine va_sld hx hb hX hbl hbA hS (zLin qx_1 (by decide) (by decide) hi6 hn6) dL_law_321 ?_
  refine lv_topi (fun a_3 ea_3 => ?_)
  refine lv_aload_n hx hb dL_law_322 rfl (lv_at hl 3 rfl) ?_
  refine lv_iload_n hx hb dL_law_323 rfl (lv_at hl 0 rfl) ?_
  refine lv_iconst (v := 2) hx hb dL_law_324 (by decide) ?_
  refine lv_iadd hx hb dL_law_325 ?_
  refine lv_topi (fun x_4 ex_4 => ?_)
  have qx_4 : x_4.toInt = i.toInt + 2 := zLadd ex_4 (by decide) (by decide) (by decide) hi6 hn6 hL
  refine va_sld hx hb hX hbl hbA hS (zLin qx_4 (by decide) (by decide) hi6 hn6) dL_law_326 ?_
  refine lv_topi (fun a_6 ea_6 => ?_)
  refine lv_aload_n hx hb dL_law_327 rfl (lv_at hl 3 rfl) ?_
  refine lv_iload_n hx hb dL_law_328 rfl (lv_at hl 0 rfl) ?_
  refine lv_iconst (v := 3) hx hb dL_law_329 (by decide) ?_
  refine lv_iadd hx hb dL_law_330 ?_
  refine lv_topi (fun x_7 ex_7 => ?_)
  have qx_7 : x_7.toInt = i.toInt + 3 := zLadd ex_7 (by decide) (by decide) (by decide) hi6 hn6 hL
  refine va_sld hx hb hX hbl hbA hS (zLin qx_7 (by decide) (by decide) hi6 hn6) dL_law_331 ?_
  refine lv_topi (fun a_9 ea_9 => ?_)
  refine lv_aload_n hx hb dL_law_332 rfl (lv_at hl 3 rfl) ?_
  refine lv_iload_n hx hb dL_law_333 rfl (lv_at hl 0 rfl) ?_
  refine lv_iconst (v := 4) hx hb dL_law_334 (by decide) ?_
  refine lv_iadd hx hb dL_law_335 ?_
  refine lv_topi (fun x_10 ex_10 => ?_)
  have qx_10 : x_10.toInt = i.toInt + 4 := zLadd ex_10 (by decide) (by decide) (by decide) hi6 hn6 hL
  refine va_sld hx hb hX hbl hbA hS (zLin qx_10 (by decide) (by decide) hi6 hn6) dL_law_336 ?_
  refine lv_topi (fun a_12 ea_12 => ?_)
  refine lv_aload_n hx hb dL_law_337 rfl (lv_at hl 3 rfl) ?_
  refine lv_iload_n hx hb dL_law_338 rfl (lv_at hl 0 rfl) ?_
  refine lv_iconst (v := 5) hx hb dL_law_339 (by decide) ?_
  refine lv_iadd hx hb dL_law_340 ?_
  refine lv_topi (fun x_13 ex_13 => ?_)
  have qx_13 : x_13.toInt = i.toInt + 5 := zLadd ex_13 (by decide) (by decide) (by decide) hi6 hn6 hL
  refine va_sld hx hb hX hbl hbA hS (zLin qx_13 (by decide) (by decide) hi6 hn6) dL_law_341 ?_
  refine lv_topi (fun a_15 ea_15 => ?_)
  obtain ⟨j_16, hj_16, qj_16, pj_16⟩ := zjq2 sh (a_3 : Int32)
  obtain ⟨j_17, hj_17, qj_17, pj_17⟩ := zjq2 sh (a_6 : Int32)
  by_cases hne : j_17 = j_16
  · rw [hne] at qj_17
    replace hP := zP_perm hP (zSo_pout hj_16 _ _ _)
    replace hD := zD_perm hD (zSo_pout hj_16 _ _ _)
    have bhe_j_16 := hp_he j_16
    have bsi_j_16 := hp_si j_16
    obtain ⟨he_j_16, ehe_j_16⟩ : ∃ z : Int32, z = he j_16 := ⟨_, rfl⟩
    obtain ⟨si_j_16, esi_j_16⟩ : ∃ z : Int32, z = si j_16 := ⟨_, rfl⟩
    rw [← ehe_j_16] at bhe_j_16
    rw [← esi_j_16] at bsi_j_16
    rw [← ehe_j_16, ← esi_j_16] at hP hD
    skip
    refine zt_V (As := [.int a_3, .int a_6, .int a_9, .int a_12, .int a_15]) (rest := []) (ws := [(x0, .inr (7, [.ref xs, .ref j0, .ref k0, .ref w0, .ref rd, .ref mv, .ref xr, .int im, .int lf])), (xs, .inl (cS, 8, .inr (.inr (.inr (.inr (zS sh)))))), (xr, .inl (cI, 8, .inl fxr)), (zMO m0 npu nte nat_ nde nto nse nhu nga nsd nfa mrf mki mpa mta mla msl mco mhe mso msi msh mce mca mwo mnu mte nba npl nen nnu nwr mwa mke mma mth mtr nra nik), (mrf, .inl (cI, 8, .inl grf)), (mhe, .inl (cI, 8, .inl ghe)), (mso, .inl (cI, 8, .inl gso)), (msi, .inl (cI, 8, .inl gsi)), (mce, .inl (cJ, 1280, .inr (.inl gce))), (mca, .inl (cJ, 160, .inr (.inl gca))), ((sh j_16), .inr (4, [.ref (el j_16), .int he_j_16, .int si_j_16])), ((el j_16), .inl (cJ, 160, .inr (.inl (fe j_16))))]) (wr := [(zMO m0 npu nte nat_ nde nto nse nhu nga nsd nfa mrf mki mpa mta mla msl mco mhe mso msi msh mce mca mwo mnu mte nba npl nen nnu nwr mwa mke mma mth mtr nra nik), (mrf, .inl (cI, 8, .inl grf)), (mhe, .inl (cI, 8, .inl ghe)), (mso, .inl (cI, 8, .inl gso)), (msi, .inl (cI, 8, .inl gsi)), (mce, .inl (cJ, 1280, .inr (.inl gce))), (mca, .inl (cJ, 160, .inr (.inl gca)))]) ⟨hx, hb, hml, hown, hts⟩ (c_F_X_copy_same l D cI cJ cZ cP cS po x0 xs j0 k0 w0 rd mv xr (im) (lf) fxr ((zS sh)) (a_3) ((sh j_16)) ((el j_16)) (he_j_16) (si_j_16) ((fe j_16)) (a_6) (a_9) (a_12) (a_15) b_im.1 b_im.2 b_lf.1 b_lf.2 bhe_j_16.1 bhe_j_16.2 bsi_j_16.1 bsi_j_16.2 qj_16 qj_17 H.size) (cwV 5 hts gq_25 rfl rfl rfl ⟨rfl, dh_X7_copy⟩ ⟨Nat.le_of_ble_eq_true rfl, Nat.le_of_ble_eq_true rfl⟩) hK hN hP hD hS hA [0, 2, 1, 10, 11] [3, 4, 5, 6, 7, 8, 9] rfl rfl (by decide) (by decide) (by decide) (zE_law (isC := [0, 2, 1, 10, 11]) hz1 hz2 hP hD hS hA rfl hpr) (va_recv (q := (RX7, TX7, 9)) hK hP (ci := 7) (q0 := 0) rfl rfl) rfl hl.1 rfl (Nat.le_of_ble_eq_true rfl) dL_law_342 ⟨zRmC hkc hn6 hL (by decide), zRmS hks hn6 hL (by decide)⟩ (fun r_18 u_19 H locs hr_18 hP hD hS => ?_)
    obtain ⟨q_20, q_21⟩ := u_19
    try dsimp only at hr_18
    obtain ⟨hsr_18_0, hsr_18_1, hsr_18_2, hr_18⟩ := hr_18
    have h9R := zRe (ws' := ([(zMO m0 npu nte nat_ nde nto nse nhu nga nsd nfa mrf mki mpa mta mla msl mco mhe mso msi msh mce mca mwo mnu mte nba npl nen nnu nwr mwa mke mma mth mtr nra nik), (mrf, .inl (cI, 8, .inl grf)), (mhe, .inl (cI, 8, .inl ghe)), (mso, .inl (cI, 8, .inl gso)), (msi, .inl (cI, 8, .inl gsi)), (mce, .inl (cJ, 1280, .inr (.inl gce))), (mca, .inl (cJ, 160, .inr (.inl gca))), (x0, .inr (7, [.ref xs, .ref j0, .ref k0, .ref w0, .ref rd, .ref mv, .ref xr, .int im, .int lf])), (xr, .inl (cI, 8, .inl q_21)), (xs, .inl (cS, 8, .inr (.inr (.inr (.inr (zS sh)))))), ((sh j_16), .inr (4, [.ref (el j_16), .int he_j_16, .int si_j_16])), ((el j_16), .inl (cJ, 160, .inr (.inl q_20)))] ++ ((zShR cJ sh el he si fe j_16 ++ So) ++ po.1.map zPo))) hP hD rfl
    clear hP hD
    obtain ⟨hP, hD⟩ := h9R
    rw [ehe_j_16, esi_j_16] at hP hD
    have h9R := zRe (ws' := ([(zMO m0 npu nte nat_ nde nto nse nhu nga nsd nfa mrf mki mpa mta mla msl mco mhe mso msi msh mce mca mwo mnu mte nba npl nen nnu nwr mwa mke mma mth mtr nra nik), (mrf, .inl (cI, 8, .inl grf)), (mhe, .inl (cI, 8, .inl ghe)), (mso, .inl (cI, 8, .inl gso)), (msi, .inl (cI, 8, .inl gsi)), (mce, .inl (cJ, 1280, .inr (.inl gce))), (mca, .inl (cJ, 160, .inr (.inl gca))), (x0, .inr (7, [.ref xs, .ref j0, .ref k0, .ref w0, .ref rd, .ref mv, .ref xr, .int im, .int lf])), (xr, .inl (cI, 8, .inl q_21)), (xs, .inl (cS, 8, .inr (.inr (.inr (.inr (zS sh)))))), ((sh j_16), .inr (4, [.ref (el j_16), .int (he j_16), .int (si j_16)])), ((el j_16), .inl (cJ, 160, .inr (.inl q_20)))] ++ ((zShR cJ sh el he si fe j_16 ++ So) ++ po.1.map zPo))) hP hD rfl
    clear hP hD
    obtain ⟨hP, hD⟩ := h9R
    replace hP := zP_perm (show va_P D vwCl (([(zMO m0 npu nte nat_ nde nto nse nhu nga nsd nfa mrf mki mpa mta mla msl mco mhe mso msi msh mce mca mwo mnu mte nba npl nen nnu nwr mwa mke mma mth mtr nra nik), (mrf, .inl (cI, 8, .inl grf)), (mhe, .inl (cI, 8, .inl ghe)), (mso, .inl (cI, 8, .inl gso)), (msi, .inl (cI, 8, .inl gsi)), (mce, .inl (cJ, 1280, .inr (.inl gce))), (mca, .inl (cJ, 160, .inr (.inl gca))), (x0, .inr (7, [.ref xs, .ref j0, .ref k0, .ref w0, .ref rd, .ref mv, .ref xr, .int im, .int lf])), (xr, .inl (cI, 8, .inl q_21)), (xs, .inl (cS, 8, .inr (.inr (.inr (.inr (zS sh))))))] ++ [((sh j_16), .inr (4, [.ref (el j_16), .int (he j_16), .int (si j_16)])), ((el j_16), .inl (cJ, 160, .inr (.inl q_20)))]) ++ ((zShR cJ sh el he si fe j_16 ++ So) ++ po.1.map zPo)) H from hP.part [0, 1, 2, 3, 4, 5, 6, 7, 8, 9, 10, 11] rfl) (zSo_pin hj_16 _ _ _ ((he j_16) : Int32) ((si j_16) : Int32) q_20)
    replace hD := zD_perm (show va_D (fun q : Nat => s.heap.size ≤ q) (([(zMO m0 npu nte nat_ nde nto nse nhu nga nsd nfa mrf mki mpa mta mla msl mco mhe mso msi msh mce mca mwo mnu mte nba npl nen nnu nwr mwa mke mma mth mtr nra nik), (mrf, .inl (cI, 8, .inl grf)), (mhe, .inl (cI, 8, .inl ghe)), (mso, .inl (cI, 8, .inl gso)), (msi, .inl (cI, 8, .inl gsi)), (mce, .inl (cJ, 1280, .inr (.inl gce))), (mca, .inl (cJ, 160, .inr (.inl gca))), (x0, .inr (7, [.ref xs, .ref j0, .ref k0, .ref w0, .ref rd, .ref mv, .ref xr, .int im, .int lf])), (xr, .inl (cI, 8, .inl q_21)), (xs, .inl (cS, 8, .inr (.inr (.inr (.inr (zS sh))))))] ++ [((sh j_16), .inr (4, [.ref (el j_16), .int (he j_16), .int (si j_16)])), ((el j_16), .inl (cJ, 160, .inr (.inl q_20)))]) ++ ((zShR cJ sh el he si fe j_16 ++ So) ++ po.1.map zPo)) from hD.part [0, 1, 2, 3, 4, 5, 6, 7, 8, 9, 10, 11] (by decide +kernel) rfl) (zSo_pin hj_16 _ _ _ ((he j_16) : Int32) ((si j_16) : Int32) q_20)
    obtain ⟨he_22, ehe_22⟩ : ∃ z : Nat → Int32, z = va_up he j_16 (he j_16) := ⟨_, rfl⟩
    rw [← ehe_22] at hP hD
    have hp_he_22 : zRg he_22 (-1) 103 := by rw [ehe_22]; exact zRg_va hp_he (hp_he _)
    obtain ⟨si_23, esi_23⟩ : ∃ z : Nat → Int32, z = va_up si j_16 (si j_16) := ⟨_, rfl⟩
    rw [← esi_23] at hP hD
    have hp_si_23 : zRg si_23 (0) 160 := by rw [esi_23]; exact zRg_va hp_si (hp_si _)
    obtain ⟨fe_24, efe_24⟩ : ∃ z : Nat → Nat → Int64, z = va_up fe j_16 q_20 := ⟨_, rfl⟩
    rw [← efe_24] at hP hD
    have h9R := zRe (ws' := ([(zMO m0 npu nte nat_ nde nto nse nhu nga nsd nfa mrf mki mpa mta mla msl mco mhe mso msi msh mce mca mwo mnu mte nba npl nen nnu nwr mwa mke mma mth mtr nra nik), (mrf, .inl (cI, 8, .inl grf)), (mhe, .inl (cI, 8, .inl ghe)), (mso, .inl (cI, 8, .inl gso)), (msi, .inl (cI, 8, .inl gsi)), (mce, .inl (cJ, 1280, .inr (.inl gce))), (mca, .inl (cJ, 160, .inr (.inl gca))), (x0, .inr (7, [.ref xs, .ref j0, .ref k0, .ref w0, .ref rd, .ref mv, .ref xr, .int im, .int lf])), (xr, .inl (cI, 8, .inl q_21)), (xs, .inl (cS, 8, .inr (.inr (.inr (.inr (zS sh))))))] ++ ((zShW cJ sh el he_22 si_23 fe_24 ++ So) ++ po.1.map zPo))) hP hD rfl
    clear hP hD
    obtain ⟨hP, hD⟩ := h9R
    refine lv_pop hx hb dL_law_345 rfl ?_
    refine lv_aload_n hx hb dL_law_346 rfl (lv_at hl 1 rfl) ?_
    refine lv_aload_n hx hb dL_law_347 rfl (lv_at hl 3 rfl) ?_
    refine lv_iload_n hx hb dL_law_348 rfl (lv_at hl 0 rfl) ?_
    refine lv_iconst (v := 1) hx hb dL_law_349 (by decide) ?_
    refine lv_iadd hx hb dL_law_350 ?_
    refine lv_topi (fun y_25 ey_25 => ?_)
    obtain rfl : x_1 = y_25 := ex_1.trans ey_25.symm
    refine va_sld hx hb hX hbl hbA hS (zLin qx_1 (by decide) (by decide) hi6 hn6) dL_law_351 ?_
    refine lv_topi (fun y_26 ey_26 => ?_)
    obtain rfl : a_3 = y_26 := ea_3.trans ey_26.symm
    refine lv_aload_n hx hb dL_law_352 rfl (lv_at hl 3 rfl) ?_
    refine lv_iload_n hx hb dL_law_353 rfl (lv_at hl 0 rfl) ?_
    refine lv_iconst (v := 2) hx hb dL_law_354 (by decide) ?_
    refine lv_iadd hx hb dL_law_355 ?_
    refine lv_topi (fun y_27 ey_27 => ?_)
    obtain rfl : x_4 = y_27 := ex_4.trans ey_27.symm
    refine va_sld hx hb hX hbl hbA hS (zLin qx_4 (by decide) (by decide) hi6 hn6) dL_law_356 ?_
    refine lv_topi (fun y_28 ey_28 => ?_)
    obtain rfl : a_6 = y_28 := ea_6.trans ey_28.symm
    refine lv_aload_n hx hb dL_law_357 rfl (lv_at hl 3 rfl) ?_
    refine lv_iload_n hx hb dL_law_358 rfl (lv_at hl 0 rfl) ?_
    refine lv_iconst (v := 3) hx hb dL_law_359 (by decide) ?_
    refine lv_iadd hx hb dL_law_360 ?_
    refine lv_topi (fun y_29 ey_29 => ?_)
    obtain rfl : x_7 = y_29 := ex_7.trans ey_29.symm
    refine va_sld hx hb hX hbl hbA hS (zLin qx_7 (by decide) (by decide) hi6 hn6) dL_law_361 ?_
    refine lv_topi (fun y_30 ey_30 => ?_)
    obtain rfl : a_9 = y_30 := ea_9.trans ey_30.symm
    refine lv_aload_n hx hb dL_law_362 rfl (lv_at hl 3 rfl) ?_
    refine lv_iload_n hx hb dL_law_363 rfl (lv_at hl 0 rfl) ?_
    refine lv_iconst (v := 4) hx hb dL_law_364 (by decide) ?_
    refine lv_iadd hx hb dL_law_365 ?_
    refine lv_topi (fun y_31 ey_31 => ?_)
    obtain rfl : x_10 = y_31 := ex_10.trans ey_31.symm
    refine va_sld hx hb hX hbl hbA hS (zLin qx_10 (by decide) (by decide) hi6 hn6) dL_law_366 ?_
    refine lv_topi (fun y_32 ey_32 => ?_)
    obtain rfl : a_12 = y_32 := ea_12.trans ey_32.symm
    refine lv_aload_n hx hb dL_law_367 rfl (lv_at hl 3 rfl) ?_
    refine lv_iload_n hx hb dL_law_368 rfl (lv_at hl 0 rfl) ?_
    refine lv_iconst (v := 5) hx hb dL_law_369 (by decide) ?_
    refine lv_iadd hx hb dL_law_370 ?_
    refine lv_topi (fun y_33 ey_33 => ?_)
    obtain rfl : x_13 = y_33 := ex_13.trans ey_33.symm
    refine va_sld hx hb hX hbl hbA hS (zLin qx_13 (by decide) (by decide) hi6 hn6) dL_law_371 ?_
    refine lv_topi (fun y_34 ey_34 => ?_)
    obtain rfl : a_15 = y_34 := ea_15.trans ey_34.symm
    skip
    refine zt_V (As := [.int a_3, .int a_6, .int a_9, .int a_12, .int a_15]) (rest := []) (ws := [(zMO m0 npu nte nat_ nde nto nse nhu nga nsd nfa mrf mki mpa mta mla msl mco mhe mso msi msh mce mca mwo mnu mte nba npl nen nnu nwr mwa mke mma mth mtr nra nik), (mrf, .inl (cI, 8, .inl grf)), (mhe, .inl (cI, 8, .inl ghe)), (mso, .inl (cI, 8, .inl gso)), (msi, .inl (cI, 8, .inl gsi)), (mce, .inl (cJ, 1280, .inr (.inl gce))), (mca, .inl (cJ, 160, .inr (.inl gca))), (x0, .inr (7, [.ref xs, .ref j0, .ref k0, .ref w0, .ref rd, .ref mv, .ref xr, .int im, .int lf])), (xr, .inl (cI, 8, .inl q_21)), (xs, .inl (cS, 8, .inr (.inr (.inr (.inr (zS sh))))))]) (wr := [(x0, .inr (7, [.ref xs, .ref j0, .ref k0, .ref w0, .ref rd, .ref mv, .ref xr, .int im, .int lf])), (xr, .inl (cI, 8, .inl q_21)), (xs, .inl (cS, 8, .inr (.inr (.inr (.inr (zS sh))))))]) ⟨hx, hb, hml, hown, hts⟩ (c_F_M_copy l D cI cJ cZ cP cS po m0 mrf mki mpa mta mla msl mco mhe mso msi msh mce mca mwo mnu mte mwa mke mma mth mtr (npu) (nte) (nat_) (nde) (nto) (nse) (nhu) (nga) (nsd) (nfa) (nba) (npl) (nen) (nnu) (nwr) (nra) (nik) grf ghe gso gsi gce gca (a_3) (a_6) (a_9) (a_12) (a_15) b_npu.1 b_npu.2 b_nte.1 b_nte.2 b_nat_.1 b_nat_.2 b_nde.1 b_nde.2 b_nhu.1 b_nhu.2 b_nra.1 b_nra.2 b_nik.1 b_nik.2 hp_ghe hp_gso hp_gsi H.size) (cwV 5 hts gq_29 rfl rfl rfl ⟨rfl, dh_X8_copy⟩ ⟨Nat.le_of_ble_eq_true rfl, Nat.le_of_ble_eq_true rfl⟩) hK hN hP hD hS hA [0, 1, 2, 3, 4, 5, 6] [7, 8, 9] rfl rfl (by decide) (by decide) (by decide) (zE_law (isC := [0, 1, 2, 3, 4, 5, 6]) hz1 hz2 hP hD hS hA rfl hpr) (va_recv (q := (RX8, TX8, 38)) hK hP (ci := 8) (q0 := 0) rfl rfl) rfl hl.1 rfl (Nat.le_of_ble_eq_true rfl) dL_law_372 ⟨zRmC hkc hn6 hL (by decide), zRmS hks hn6 hL (by decide)⟩ (fun r_35 u_36 H locs hr_35 hP hD hS => ?_)
    obtain ⟨q_37, q_38, q_39⟩ := u_36
    try dsimp only at hr_35
    obtain ⟨hsr_35_0, hsr_35_1, hsr_35_2, hr_35⟩ := hr_35
    have h9R := zRe (ws' := ([(x0, .inr (7, [.ref xs, .ref j0, .ref k0, .ref w0, .ref rd, .ref mv, .ref xr, .int im, .int lf])), (xr, .inl (cI, 8, .inl q_21)), (xs, .inl (cS, 8, .inr (.inr (.inr (.inr (zS sh)))))), (zMO m0 npu nte nat_ nde nto nse nhu nga nsd nfa mrf mki mpa mta mla msl mco mhe mso msi msh mce mca mwo mnu mte nba npl nen nnu nwr mwa mke mma mth mtr nra nik), (mrf, .inl (cI, 8, .inl q_37)), (mhe, .inl (cI, 8, .inl ghe)), (mso, .inl (cI, 8, .inl gso)), (msi, .inl (cI, 8, .inl gsi)), (mce, .inl (cJ, 1280, .inr (.inl q_38))), (mca, .inl (cJ, 160, .inr (.inl q_39)))] ++ ((zShW cJ sh el he_22 si_23 fe_24 ++ So) ++ po.1.map zPo))) hP hD rfl
    clear hP hD
    obtain ⟨hP, hD⟩ := h9R
    obtain ⟨hA, hR8⟩ := zRel_copy hR hHS hp_ghe hp_gso hp_he hp_si pj_16 hj_16 (fun a b => by rw [← hne]; exact pj_17 a b) hj_16 (by rw [← ehe_j_16, ← esi_j_16]; exact hsr_18_0) hsr_18_1 hsr_18_2 hsr_35_0 hsr_35_1 hsr_35_2
    have hR9 : zRel he_22 si_23 fe_24 ghe gso gsi gsh q_38 := by rw [ehe_22, esi_23, efe_24, zUpS, zUpS]; exact hR8
    refine lv_pop hx hb dL_law_375 rfl ?_
    refine lv_goto (tgt := 1370) hx hb dL_law_376 (by decide) ?_
    exact hnx im lf npu nte nat_ nde nto nse nhu nga nsd nfa nba npl nen nnu nwr nra nik q_21 q_37 ghe gso gsi he_22 si_23 q_38 q_39 fe_24 b_im b_lf b_npu b_nte b_nat_ b_nde b_nhu b_nra b_nik hp_ghe hp_gso hp_gsi hp_he_22 hp_si_23 hHS hik hR9 hcn hsz him hlf hkq hT hTk hKI hKk hNu hNk _ _ (zRmN hkc) (zRmM hks) H locs (hP.part [0, 2, 1, 3, 4, 5, 6, 7, 8, 9] rfl) (hD.part [0, 2, 1, 3, 4, 5, 6, 7, 8, 9] (by decide +kernel) rfl) hS ls (lv_sub hl [0, 1, 2, 3] rfl)
  · replace hP := zP_perm hP (zSo_pout2 hj_16 hj_17 hne _ _ _)
    replace hD := zD_perm hD (zSo_pout2 hj_16 hj_17 hne _ _ _)
    have bhe_j_16 := hp_he j_16
    have bsi_j_16 := hp_si j_16
    obtain ⟨he_j_16, ehe_j_16⟩ : ∃ z : Int32, z = he j_16 := ⟨_, rfl⟩
    obtain ⟨si_j_16, esi_j_16⟩ : ∃ z : Int32, z = si j_16 := ⟨_, rfl⟩
    rw [← ehe_j_16] at bhe_j_16
    rw [← esi_j_16] at bsi_j_16
    have bhe_j_17 := hp_he j_17
    have bsi_j_17 := hp_si j_17
    obtain ⟨he_j_17, ehe_j_17⟩ : ∃ z : Int32, z = he j_17 := ⟨_, rfl⟩
    obtain ⟨si_j_17, esi_j_17⟩ : ∃ z : Int32, z = si j_17 := ⟨_, rfl⟩
    rw [← ehe_j_17] at bhe_j_17
    rw [← esi_j_17] at bsi_j_17
    rw [← ehe_j_16, ← esi_j_16, ← ehe_j_17, ← esi_j_17] at hP hD
    skip
    refine zt_V (As := [.int a_3, .int a_6, .int a_9, .int a_12, .int a_15]) (rest := []) (ws := [(x0, .inr (7, [.ref xs, .ref j0, .ref k0, .ref w0, .ref rd, .ref mv, .ref xr, .int im, .int lf])), (xs, .inl (cS, 8, .inr (.inr (.inr (.inr (zS sh)))))), (xr, .inl (cI, 8, .inl fxr)), (zMO m0 npu nte nat_ nde nto nse nhu nga nsd nfa mrf mki mpa mta mla msl mco mhe mso msi msh mce mca mwo mnu mte nba npl nen nnu nwr mwa mke mma mth mtr nra nik), (mrf, .inl (cI, 8, .inl grf)), (mhe, .inl (cI, 8, .inl ghe)), (mso, .inl (cI, 8, .inl gso)), (msi, .inl (cI, 8, .inl gsi)), (mce, .inl (cJ, 1280, .inr (.inl gce))), (mca, .inl (cJ, 160, .inr (.inl gca))), ((sh j_16), .inr (4, [.ref (el j_16), .int he_j_16, .int si_j_16])), ((el j_16), .inl (cJ, 160, .inr (.inl (fe j_16)))), ((sh j_17), .inr (4, [.ref (el j_17), .int he_j_17, .int si_j_17])), ((el j_17), .inl (cJ, 160, .inr (.inl (fe j_17))))]) (wr := [(zMO m0 npu nte nat_ nde nto nse nhu nga nsd nfa mrf mki mpa mta mla msl mco mhe mso msi msh mce mca mwo mnu mte nba npl nen nnu nwr mwa mke mma mth mtr nra nik), (mrf, .inl (cI, 8, .inl grf)), (mhe, .inl (cI, 8, .inl ghe)), (mso, .inl (cI, 8, .inl gso)), (msi, .inl (cI, 8, .inl gsi)), (mce, .inl (cJ, 1280, .inr (.inl gce))), (mca, .inl (cJ, 160, .inr (.inl gca)))]) ⟨hx, hb, hml, hown, hts⟩ (c_F_X_copy l D cI cJ cZ cP cS po x0 xs j0 k0 w0 rd mv xr (im) (lf) fxr ((zS sh)) (a_3) ((sh j_16)) ((el j_16)) (he_j_16) (si_j_16) ((fe j_16)) (a_6) ((sh j_17)) ((el j_17)) (he_j_17) (si_j_17) ((fe j_17)) (a_9) (a_12) (a_15) b_im.1 b_im.2 b_lf.1 b_lf.2 bhe_j_16.1 bhe_j_16.2 bsi_j_16.1 bsi_j_16.2 bhe_j_17.1 bhe_j_17.2 bsi_j_17.1 bsi_j_17.2 qj_16 qj_17 H.size) (cwV 5 hts gq_25 rfl rfl rfl ⟨rfl, dh_X7_copy⟩ ⟨Nat.le_of_ble_eq_true rfl, Nat.le_of_ble_eq_true rfl⟩) hK hN hP hD hS hA [0, 2, 1, 10, 11, 12, 13] [3, 4, 5, 6, 7, 8, 9] rfl rfl (by decide) (by decide) (by decide) (zE_law (isC := [0, 2, 1, 10, 11, 12, 13]) hz1 hz2 hP hD hS hA rfl hpr) (va_recv (q := (RX7, TX7, 9)) hK hP (ci := 7) (q0 := 0) rfl rfl) rfl hl.1 rfl (Nat.le_of_ble_eq_true rfl) dL_law_342 ⟨zRmC hkc hn6 hL (by decide), zRmS hks hn6 hL (by decide)⟩ (fun r_40 u_41 H locs hr_40 hP hD hS => ?_)
    obtain ⟨q_42, q_43⟩ := u_41
    try dsimp only at hr_40
    obtain ⟨hsr_40_0, hsr_40_1, hsr_40_2, hr_40⟩ := hr_40
    have h9R := zRe (ws' := ([(zMO m0 npu nte nat_ nde nto nse nhu nga nsd nfa mrf mki mpa mta mla msl mco mhe mso msi msh mce mca mwo mnu mte nba npl nen nnu nwr mwa mke mma mth mtr nra nik), (mrf, .inl (cI, 8, .inl grf)), (mhe, .inl (cI, 8, .inl ghe)), (mso, .inl (cI, 8, .inl gso)), (msi, .inl (cI, 8, .inl gsi)), (mce, .inl (cJ, 1280, .inr (.inl gce))), (mca, .inl (cJ, 160, .inr (.inl gca))), (x0, .inr (7, [.ref xs, .ref j0, .ref k0, .ref w0, .ref rd, .ref mv, .ref xr, .int im, .int lf])), (xr, .inl (cI, 8, .inl q_43)), (xs, .inl (cS, 8, .inr (.inr (.inr (.inr (zS sh)))))), ((sh j_16), .inr (4, [.ref (el j_16), .int he_j_16, .int si_j_16])), ((el j_16), .inl (cJ, 160, .inr (.inl (fe j_16)))), ((sh j_17), .inr (4, [.ref (el j_17), .int he_j_17, .int si_j_17])), ((el j_17), .inl (cJ, 160, .inr (.inl q_42)))] ++ ((zShR2 cJ sh el he si fe j_16 j_17 ++ So) ++ po.1.map zPo))) hP hD rfl
    clear hP hD
    obtain ⟨hP, hD⟩ := h9R
    rw [ehe_j_16, esi_j_16] at hP hD
    rw [ehe_j_17, esi_j_17] at hP hD
    have h9R := zRe (ws' := ([(zMO m0 npu nte nat_ nde nto nse nhu nga nsd nfa mrf mki mpa mta mla msl mco mhe mso msi msh mce mca mwo mnu mte nba npl nen nnu nwr mwa mke mma mth mtr nra nik), (mrf, .inl (cI, 8, .inl grf)), (mhe, .inl (cI, 8, .inl ghe)), (mso, .inl (cI, 8, .inl gso)), (msi, .inl (cI, 8, .inl gsi)), (mce, .inl (cJ, 1280, .inr (.inl gce))), (mca, .inl (cJ, 160, .inr (.inl gca))), (x0, .inr (7, [.ref xs, .ref j0, .ref k0, .ref w0, .ref rd, .ref mv, .ref xr, .int im, .int lf])), (xr, .inl (cI, 8, .inl q_43)), (xs, .inl (cS, 8, .inr (.inr (.inr (.inr (zS sh)))))), ((sh j_16), .inr (4, [.ref (el j_16), .int (he j_16), .int (si j_16)])), ((el j_16), .inl (cJ, 160, .inr (.inl (fe j_16)))), ((sh j_17), .inr (4, [.ref (el j_17), .int (he j_17), .int (si j_17)])), ((el j_17), .inl (cJ, 160, .inr (.inl q_42)))] ++ ((zShR2 cJ sh el he si fe j_16 j_17 ++ So) ++ po.1.map zPo))) hP hD rfl
    clear hP hD
    obtain ⟨hP, hD⟩ := h9R
    replace hP := zP_perm (show va_P D vwCl (([(zMO m0 npu nte nat_ nde nto nse nhu nga nsd nfa mrf mki mpa mta mla msl mco mhe mso msi msh mce mca mwo mnu mte nba npl nen nnu nwr mwa mke mma mth mtr nra nik), (mrf, .inl (cI, 8, .inl grf)), (mhe, .inl (cI, 8, .inl ghe)), (mso, .inl (cI, 8, .inl gso)), (msi, .inl (cI, 8, .inl gsi)), (mce, .inl (cJ, 1280, .inr (.inl gce))), (mca, .inl (cJ, 160, .inr (.inl gca))), (x0, .inr (7, [.ref xs, .ref j0, .ref k0, .ref w0, .ref rd, .ref mv, .ref xr, .int im, .int lf])), (xr, .inl (cI, 8, .inl q_43)), (xs, .inl (cS, 8, .inr (.inr (.inr (.inr (zS sh))))))] ++ [((sh j_16), .inr (4, [.ref (el j_16), .int (he j_16), .int (si j_16)])), ((el j_16), .inl (cJ, 160, .inr (.inl (fe j_16)))), ((sh j_17), .inr (4, [.ref (el j_17), .int (he j_17), .int (si j_17)])), ((el j_17), .inl (cJ, 160, .inr (.inl q_42)))]) ++ ((zShR2 cJ sh el he si fe j_16 j_17 ++ So) ++ po.1.map zPo)) H from hP.part [0, 1, 2, 3, 4, 5, 6, 7, 8, 9, 10, 11, 12, 13] rfl) (zSo_pin2 hj_16 hj_17 hne _ _ _ q_42)
    replace hD := zD_perm (show va_D (fun q : Nat => s.heap.size ≤ q) (([(zMO m0 npu nte nat_ nde nto nse nhu nga nsd nfa mrf mki mpa mta mla msl mco mhe mso msi msh mce mca mwo mnu mte nba npl nen nnu nwr mwa mke mma mth mtr nra nik), (mrf, .inl (cI, 8, .inl grf)), (mhe, .inl (cI, 8, .inl ghe)), (mso, .inl (cI, 8, .inl gso)), (msi, .inl (cI, 8, .inl gsi)), (mce, .inl (cJ, 1280, .inr (.inl gce))), (mca, .inl (cJ, 160, .inr (.inl gca))), (x0, .inr (7, [.ref xs, .ref j0, .ref k0, .ref w0, .ref rd, .ref mv, .ref xr, .int im, .int lf])), (xr, .inl (cI, 8, .inl q_43)), (xs, .inl (cS, 8, .inr (.inr (.inr (.inr (zS sh))))))] ++ [((sh j_16), .inr (4, [.ref (el j_16), .int (he j_16), .int (si j_16)])), ((el j_16), .inl (cJ, 160, .inr (.inl (fe j_16)))), ((sh j_17), .inr (4, [.ref (el j_17), .int (he j_17), .int (si j_17)])), ((el j_17), .inl (cJ, 160, .inr (.inl q_42)))]) ++ ((zShR2 cJ sh el he si fe j_16 j_17 ++ So) ++ po.1.map zPo)) from hD.part [0, 1, 2, 3, 4, 5, 6, 7, 8, 9, 10, 11, 12, 13] (by decide +kernel) rfl) (zSo_pin2 hj_16 hj_17 hne _ _ _ q_42)
    obtain ⟨fe_44, efe_44⟩ : ∃ z : Nat → Nat → Int64, z = va_up fe j_17 q_42 := ⟨_, rfl⟩
    rw [← efe_44] at hP hD
    have h9R := zRe (ws' := ([(zMO m0 npu nte nat_ nde nto nse nhu nga nsd nfa mrf mki mpa mta mla msl mco mhe mso msi msh mce mca mwo mnu mte nba npl nen nnu nwr mwa mke mma mth mtr nra nik), (mrf, .inl (cI, 8, .inl grf)), (mhe, .inl (cI, 8, .inl ghe)), (mso, .inl (cI, 8, .inl gso)), (msi, .inl (cI, 8, .inl gsi)), (mce, .inl (cJ, 1280, .inr (.inl gce))), (mca, .inl (cJ, 160, .inr (.inl gca))), (x0, .inr (7, [.ref xs, .ref j0, .ref k0, .ref w0, .ref rd, .ref mv, .ref xr, .int im, .int lf])), (xr, .inl (cI, 8, .inl q_43)), (xs, .inl (cS, 8, .inr (.inr (.inr (.inr (zS sh))))))] ++ ((zShW cJ sh el he si fe_44 ++ So) ++ po.1.map zPo))) hP hD rfl
    clear hP hD
    obtain ⟨hP, hD⟩ := h9R
    refine lv_pop hx hb dL_law_345 rfl ?_
    refine lv_aload_n hx hb dL_law_346 rfl (lv_at hl 1 rfl) ?_
    refine lv_aload_n hx hb dL_law_347 rfl (lv_at hl 3 rfl) ?_
    refine lv_iload_n hx hb dL_law_348 rfl (lv_at hl 0 rfl) ?_
    refine lv_iconst (v := 1) hx hb dL_law_349 (by decide) ?_
    refine lv_iadd hx hb dL_law_350 ?_
    refine lv_topi (fun y_45 ey_45 => ?_)
    obtain rfl : x_1 = y_45 := ex_1.trans ey_45.symm
    refine va_sld hx hb hX hbl hbA hS (zLin qx_1 (by decide) (by decide) hi6 hn6) dL_law_351 ?_
    refine lv_topi (fun y_46 ey_46 => ?_)
    obtain rfl : a_3 = y_46 := ea_3.trans ey_46.symm
    refine lv_aload_n hx hb dL_law_352 rfl (lv_at hl 3 rfl) ?_
    refine lv_iload_n hx hb dL_law_353 rfl (lv_at hl 0 rfl) ?_
    refine lv_iconst (v := 2) hx hb dL_law_354 (by decide) ?_
    refine lv_iadd hx hb dL_law_355 ?_
    refine lv_topi (fun y_47 ey_47 => ?_)
    obtain rfl : x_4 = y_47 := ex_4.trans ey_47.symm
    refine va_sld hx hb hX hbl hbA hS (zLin qx_4 (by decide) (by decide) hi6 hn6) dL_law_356 ?_
    refine lv_topi (fun y_48 ey_48 => ?_)
    obtain rfl : a_6 = y_48 := ea_6.trans ey_48.symm
    refine lv_aload_n hx hb dL_law_357 rfl (lv_at hl 3 rfl) ?_
    refine lv_iload_n hx hb dL_law_358 rfl (lv_at hl 0 rfl) ?_
    refine lv_iconst (v := 3) hx hb dL_law_359 (by decide) ?_
    refine lv_iadd hx hb dL_law_360 ?_
    refine lv_topi (fun y_49 ey_49 => ?_)
    obtain rfl : x_7 = y_49 := ex_7.trans ey_49.symm
    refine va_sld hx hb hX hbl hbA hS (zLin qx_7 (by decide) (by decide) hi6 hn6) dL_law_361 ?_
    refine lv_topi (fun y_50 ey_50 => ?_)
    obtain rfl : a_9 = y_50 := ea_9.trans ey_50.symm
    refine lv_aload_n hx hb dL_law_362 rfl (lv_at hl 3 rfl) ?_
    refine lv_iload_n hx hb dL_law_363 rfl (lv_at hl 0 rfl) ?_
    refine lv_iconst (v := 4) hx hb dL_law_364 (by decide) ?_
    refine lv_iadd hx hb dL_law_365 ?_
    refine lv_topi (fun y_51 ey_51 => ?_)
    obtain rfl : x_10 = y_51 := ex_10.trans ey_51.symm
    refine va_sld hx hb hX hbl hbA hS (zLin qx_10 (by decide) (by decide) hi6 hn6) dL_law_366 ?_
    refine lv_topi (fun y_52 ey_52 => ?_)
    obtain rfl : a_12 = y_52 := ea_12.trans ey_52.symm
    refine lv_aload_n hx hb dL_law_367 rfl (lv_at hl 3 rfl) ?_
    refine lv_iload_n hx hb dL_law_368 rfl (lv_at hl 0 rfl) ?_
    refine lv_iconst (v := 5) hx hb dL_law_369 (by decide) ?_
    refine lv_iadd hx hb dL_law_370 ?_
    refine lv_topi (fun y_53 ey_53 => ?_)
    obtain rfl : x_13 = y_53 := ex_13.trans ey_53.symm
    refine va_sld hx hb hX hbl hbA hS (zLin qx_13 (by decide) (by decide) hi6 hn6) dL_law_371 ?_
    refine lv_topi (fun y_54 ey_54 => ?_)
    obtain rfl : a_15 = y_54 := ea_15.trans ey_54.symm
    skip
    refine zt_V (As := [.int a_3, .int a_6, .int a_9, .int a_12, .int a_15]) (rest := []) (ws := [(zMO m0 npu nte nat_ nde nto nse nhu nga nsd nfa mrf mki mpa mta mla msl mco mhe mso msi msh mce mca mwo mnu mte nba npl nen nnu nwr mwa mke mma mth mtr nra nik), (mrf, .inl (cI, 8, .inl grf)), (mhe, .inl (cI, 8, .inl ghe)), (mso, .inl (cI, 8, .inl gso)), (msi, .inl (cI, 8, .inl gsi)), (mce, .inl (cJ, 1280, .inr (.inl gce))), (mca, .inl (cJ, 160, .inr (.inl gca))), (x0, .inr (7, [.ref xs, .ref j0, .ref k0, .ref w0, .ref rd, .ref mv, .ref xr, .int im, .int lf])), (xr, .inl (cI, 8, .inl q_43)), (xs, .inl (cS, 8, .inr (.inr (.inr (.inr (zS sh))))))]) (wr := [(x0, .inr (7, [.ref xs, .ref j0, .ref k0, .ref w0, .ref rd, .ref mv, .ref xr, .int im, .int lf])), (xr, .inl (cI, 8, .inl q_43)), (xs, .inl (cS, 8, .inr (.inr (.inr (.inr (zS sh))))))]) ⟨hx, hb, hml, hown, hts⟩ (c_F_M_copy l D cI cJ cZ cP cS po m0 mrf mki mpa mta mla msl mco mhe mso msi msh mce mca mwo mnu mte mwa mke mma mth mtr (npu) (nte) (nat_) (nde) (nto) (nse) (nhu) (nga) (nsd) (nfa) (nba) (npl) (nen) (nnu) (nwr) (nra) (nik) grf ghe gso gsi gce gca (a_3) (a_6) (a_9) (a_12) (a_15) b_npu.1 b_npu.2 b_nte.1 b_nte.2 b_nat_.1 b_nat_.2 b_nde.1 b_nde.2 b_nhu.1 b_nhu.2 b_nra.1 b_nra.2 b_nik.1 b_nik.2 hp_ghe hp_gso hp_gsi H.size) (cwV 5 hts gq_29 rfl rfl rfl ⟨rfl, dh_X8_copy⟩ ⟨Nat.le_of_ble_eq_true rfl, Nat.le_of_ble_eq_true rfl⟩) hK hN hP hD hS hA [0, 1, 2, 3, 4, 5, 6] [7, 8, 9] rfl rfl (by decide) (by decide) (by decide) (zE_law (isC := [0, 1, 2, 3, 4, 5, 6]) hz1 hz2 hP hD hS hA rfl hpr) (va_recv (q := (RX8, TX8, 38)) hK hP (ci := 8) (q0 := 0) rfl rfl) rfl hl.1 rfl (Nat.le_of_ble_eq_true rfl) dL_law_372 ⟨zRmC hkc hn6 hL (by decide), zRmS hks hn6 hL (by decide)⟩ (fun r_55 u_56 H locs hr_55 hP hD hS => ?_)
    obtain ⟨q_57, q_58, q_59⟩ := u_56
    try dsimp only at hr_55
    obtain ⟨hsr_55_0, hsr_55_1, hsr_55_2, hr_55⟩ := hr_55
    have h9R := zRe (ws' := ([(x0, .inr (7, [.ref xs, .ref j0, .ref k0, .ref w0, .ref rd, .ref mv, .ref xr, .int im, .int lf])), (xr, .inl (cI, 8, .inl q_43)), (xs, .inl (cS, 8, .inr (.inr (.inr (.inr (zS sh)))))), (zMO m0 npu nte nat_ nde nto nse nhu nga nsd nfa mrf mki mpa mta mla msl mco mhe mso msi msh mce mca mwo mnu mte nba npl nen nnu nwr mwa mke mma mth mtr nra nik), (mrf, .inl (cI, 8, .inl q_57)), (mhe, .inl (cI, 8, .inl ghe)), (mso, .inl (cI, 8, .inl gso)), (msi, .inl (cI, 8, .inl gsi)), (mce, .inl (cJ, 1280, .inr (.inl q_58))), (mca, .inl (cJ, 160, .inr (.inl q_59)))] ++ ((zShW cJ sh el he si fe_44 ++ So) ++ po.1.map zPo))) hP hD rfl
    clear hP hD
    obtain ⟨hP, hD⟩ := h9R
    obtain ⟨hA, hR8⟩ := zRel_copy hR hHS hp_ghe hp_gso hp_he hp_si pj_16 hj_16 pj_17 hj_17 (by rw [← ehe_j_16, ← esi_j_16, ← ehe_j_17, ← esi_j_17]; exact hsr_40_0) hsr_40_1 hsr_40_2 hsr_55_0 hsr_55_1 hsr_55_2
    have hR9 : zRel he si fe_44 ghe gso gsi gsh q_58 := by rw [efe_44]; exact hR8
    refine lv_pop hx hb dL_law_375 rfl ?_
    refine lv_goto (tgt := 1370) hx hb dL_law_376 (by decide) ?_
    exact hnx im lf npu nte nat_ nde nto nse nhu nga nsd nfa nba npl nen nnu nwr nra nik q_43 q_57 ghe gso gsi he si q_58 q_59 fe_44 b_im b_lf b_npu b_nte b_nat_ b_nde b_nhu b_nra b_nik hp_ghe hp_gso hp_gsi hp_he hp_si hHS hik hR9 hcn hsz him hlf hkq hT hTk hKI hKk hNu hNk _ _ (zRmN hkc) (zRmM hks) H locs (hP.part [0, 2, 1, 3, 4, 5, 6, 7, 8, 9] rfl) (hD.part [0, 2, 1, 3, 4, 5, 6, 7, 8, 9] (by decide +kernel) rfl) hS ls (lv_sub hl [0, 1, 2, 3] rfl)
set_option maxHeartbeats 16000000 in
set_option maxRecDepth 200000 in
theorem law_core_3 {p : Program} {l : Launch} {e : Env} {s : State} {m : MethodId} {below : List Frame} {meth : Method} {c : Code} {D : va_G} {cI cJ cZ cP cS : ClassId} {b L : Nat} {xs_ : Nat → Int32} (x0 xs j0 k0 w0 rd mv xr m0 mrf mki mpa mta mla msl mco mhe mso msi msh mce mca mwo mnu mte mwa mke mma mth mtr : Nat) (sh el : Nat → Nat) {So : va_W} (n nkc nks : Nat) (i : Int32) (po : zPool) (im lf cn de tr se hu sd sz at_ gp kcn kde ktr kse khu ksd ksz kat kgp npu nte nat_ nde nto nse nhu nga nsd nfa nba npl nen nnu nwr nra nik : Int32) (fzl fzs fjc fkzl fkzs fkc gki gpa gta gla gsl gco ghe gso gsi gsh gke he si kf af tf kkf kaf ktf : Nat → Int32) (gce : Nat → Int64) (fe : Nat → Nat → Int64) (C0 : lw_At p s m meth c b L xs_) (hK : va_K D vwCl (zKT cI cJ cZ cP cS) s) (hN : zN s) (hz1 : zSt (fun q : Nat => s.heap.size ≤ q) s s.heap) (hL : L ≤ 3072) (b_im : 0 ≤ im.toInt ∧ im.toInt ≤ 1) (b_lf : (-1) ≤ lf.toInt ∧ lf.toInt ≤ 160) (b_npu : 0 ≤ npu.toInt ∧ npu.toInt ≤ 8) (b_nte : 4 ≤ nte.toInt ∧ nte.toInt ≤ 40) (b_nat_ : 0 ≤ nat_.toInt ∧ nat_.toInt ≤ 40) (b_nde : 0 ≤ nde.toInt ∧ nde.toInt ≤ 24) (b_nhu : 0 ≤ nhu.toInt ∧ nhu.toInt ≤ 9) (b_nra : 0 ≤ nra.toInt ∧ nra.toInt ≤ 2000) (b_nik : 0 ≤ nik.toInt ∧ nik.toInt ≤ 1) (hp_ghe : zRg ghe (0) 2) (hp_gso : zRg gso (0) 3) (hp_gsi : zRg gsi (0) 160) (hp_he : zRg he (-1) 103) (hp_si : zRg si (0) 160) (hHS : zHS ghe gsh) (hik : (nik.toInt = 1 → zKp gke)) (hR : zRel he si fe ghe gso gsi gsh gce) (hcn : cn.toInt = npu.toInt) (hsz : sz.toInt = nte.toInt) (him : im.toInt = nik.toInt) (hlf : lf.toInt = nfa.toInt) (hkq : (nik.toInt = 1 → kcn.toInt = (gke 107).toInt ∧ ksz.toInt = (gke 108).toInt)) (hT : zTt fzl fzs gla gsl gp nga) (hTk : (nik.toInt = 1 → zTk_ fkzl fkzs gke kgp)) (hKI : zTp kf af tf gki gpa gta hu nhu) (hKk : (nik.toInt = 1 → zTq kkf kaf ktf gke khu)) (hNu : zNu de at_ se tr sd fjc nde nat_ nse nto nsd gco) (hNk : (nik.toInt = 1 → zNk kde kat kse ktr ksd fkc gke)) (hz2 : zStr po (fun q : Nat => s.heap.size ≤ q) s s.heap) (hpr : ∀ z ∈ po.1, zPr z.2.1 z.2.2.1 z.2.2.2) (hkc : nkc ≤ 100 + 40 * n) (hks : nks ≤ 10000 + 120 * n) (hi6 : i.toInt = 6 * (n : Int)) (hn6 : 6 * (n : Int) + 6 ≤ (L : Int)) (H : Heap) (locs : List Loc) (hP : va_P D vwCl ([(x0, .inr (7, [.ref xs, .ref j0, .ref k0, .ref w0, .ref rd, .ref mv, .ref xr, .int im, .int lf])), (xs, .inl (cS, 8, .inr (.inr (.inr (.inr (zS sh)))))), (zMO m0 npu nte nat_ nde nto nse nhu nga nsd nfa mrf mki mpa mta mla msl mco mhe mso msi msh mce mca mwo mnu mte nba npl nen nnu nwr mwa mke mma mth mtr nra nik), (mhe, .inl (cI, 8, .inl ghe)), (msi, .inl (cI, 8, .inl gsi)), (mce, .inl (cJ, 1280, .inr (.inl gce)))] ++ ((zShW cJ sh el he si fe ++ So) ++ po.1.map zPo)) H) (hD : va_D (fun q : Nat => s.heap.size ≤ q) ([(x0, .inr (7, [.ref xs, .ref j0, .ref k0, .ref w0, .ref rd, .ref mv, .ref xr, .int im, .int lf])), (xs, .inl (cS, 8, .inr (.inr (.inr (.inr (zS sh)))))), (zMO m0 npu nte nat_ nde nto nse nhu nga nsd nfa mrf mki mpa mta mla msl mco mhe mso msi msh mce mca mwo mnu mte nba npl nen nnu nwr mwa mke mma mth mtr nra nik), (mhe, .inl (cI, 8, .inl ghe)), (msi, .inl (cI, 8, .inl gsi)), (mce, .inl (cJ, 1280, .inr (.inl gce)))] ++ ((zShW cJ sh el he si fe ++ So) ++ po.1.map zPo))) (hS : va_S (fun q : Nat => s.heap.size ≤ q) s.heap H locs) (ls : Array Slot) (hl : lv_has ls 4 [(3, .int i), (2, .ref m0), (1, .ref x0), (0, .ref b)]) (hnx : ∀ (im lf npu nte nat_ nde nto nse nhu nga nsd nfa nba npl nen nnu nwr nra nik : Int32) (ghe gsi he si : Nat → Int32) (gce : Nat → Int64) (fe : Nat → Nat → Int64) (b_im : 0 ≤ im.toInt ∧ im.toInt ≤ 1) (b_lf : (-1) ≤ lf.toInt ∧ lf.toInt ≤ 160) (b_npu : 0 ≤ npu.toInt ∧ npu.toInt ≤ 8) (b_nte : 4 ≤ nte.toInt ∧ nte.toInt ≤ 40) (b_nat_ : 0 ≤ nat_.toInt ∧ nat_.toInt ≤ 40) (b_nde : 0 ≤ nde.toInt ∧ nde.toInt ≤ 24) (b_nhu : 0 ≤ nhu.toInt ∧ nhu.toInt ≤ 9) (b_nra : 0 ≤ nra.toInt ∧ nra.toInt ≤ 2000) (b_nik : 0 ≤ nik.toInt ∧ nik.toInt ≤ 1) (hp_ghe : zRg ghe (0) 2) (hp_gsi : zRg gsi (0) 160) (hp_he : zRg he (-1) 103) (hp_si : zRg si (0) 160) (hHS : zHS ghe gsh) (hik : (nik.toInt = 1 → zKp gke)) (hR : zRel he si fe ghe gso gsi gsh gce) (hcn : cn.toInt = npu.toInt) (hsz : sz.toInt = nte.toInt) (him : im.toInt = nik.toInt) (hlf : lf.toInt = nfa.toInt) (hkq : (nik.toInt = 1 → kcn.toInt = (gke 107).toInt ∧ ksz.toInt = (gke 108).toInt)) (hT : zTt fzl fzs gla gsl gp nga) (hTk : (nik.toInt = 1 → zTk_ fkzl fkzs gke kgp)) (hKI : zTp kf af tf gki gpa gta hu nhu) (hKk : (nik.toInt = 1 → zTq kkf kaf ktf gke khu)) (hNu : zNu de at_ se tr sd fjc nde nat_ nse nto nsd gco) (hNk : (nik.toInt = 1 → zNk kde kat kse ktr ksd fkc gke)) (nkc nks : Nat) (hkc : nkc ≤ 100 + 40 * (n + 1)) (hks : nks ≤ 10000 + 120 * (n + 1)) (H : Heap) (locs : List Loc) (hP : va_P D vwCl ([(x0, .inr (7, [.ref xs, .ref j0, .ref k0, .ref w0, .ref rd, .ref mv, .ref xr, .int im, .int lf])), (xs, .inl (cS, 8, .inr (.inr (.inr (.inr (zS sh)))))), (zMO m0 npu nte nat_ nde nto nse nhu nga nsd nfa mrf mki mpa mta mla msl mco mhe mso msi msh mce mca mwo mnu mte nba npl nen nnu nwr mwa mke mma mth mtr nra nik), (mhe, .inl (cI, 8, .inl ghe)), (msi, .inl (cI, 8, .inl gsi)), (mce, .inl (cJ, 1280, .inr (.inl gce)))] ++ ((zShW cJ sh el he si fe ++ So) ++ po.1.map zPo)) H) (hD : va_D (fun q : Nat => s.heap.size ≤ q) ([(x0, .inr (7, [.ref xs, .ref j0, .ref k0, .ref w0, .ref rd, .ref mv, .ref xr, .int im, .int lf])), (xs, .inl (cS, 8, .inr (.inr (.inr (.inr (zS sh)))))), (zMO m0 npu nte nat_ nde nto nse nhu nga nsd nfa mrf mki mpa mta mla msl mco mhe mso msi msh mce mca mwo mnu mte nba npl nen nnu nwr mwa mke mma mth mtr nra nik), (mhe, .inl (cI, 8, .inl ghe)), (msi, .inl (cI, 8, .inl gsi)), (mce, .inl (cJ, 1280, .inr (.inl gce)))] ++ ((zShW cJ sh el he si fe ++ So) ++ po.1.map zPo))) (hS : va_S (fun q : Nat => s.heap.size ≤ q) s.heap H locs) (ls : Array Slot) (hl : lv_has ls 4 [(3, .int i), (2, .ref m0), (1, .ref x0), (0, .ref b)]), W p l e room_1 s m #[Value.ref b] below meth c H locs nkc nks (lw_Z below #[Value.ref b] s) (F0 m 1370 ls [])) : W p l e room_1 s m #[Value.ref b] below meth c H locs nkc nks (lw_Z below #[Value.ref b] s) (F0 m 379 ls []) := by
  obtain ⟨hx, hb, hr, hml, hown0, hts, hX, hbl, hlocks, hgv⟩ := id C0
  have hown : s.vm.findClass RL = some m.cls := hown0
  have hA : ∀ q : Nat, s.heap.size ≤ q → (fun q : Nat => s.heap.size ≤ q) q := fun _ h => h
  have hbA : ¬ (fun q : Nat => s.heap.size ≤ q) b := Nat.not_le.mpr hbl
  obtain ⟨hNa, hNb, hNc, -⟩ := id hNu
  refine lv_aload_n hx hb dL_law_379 rfl (lv_at hl 2 rfl) ?_
  refine lv_aload_n hx hb dL_law_380 rfl (lv_at hl 3 rfl) ?_
  refine lv_iload_n hx hb dL_law_381 rfl (lv_at hl 0 rfl) ?_
  refine lv_iconst (v := 1) hx hb dL_law_382 (by decide) ?_
  refine lv_iadd hx hb dL_law_383 ?_
  refine lv_topi (fun x_1 ex_1 => ?_)
  have qx_1 : x_1.toInt = i.toInt + 1 := zLadd ex_1 (by decide) (by decide) (by decide) hi6 hn6 hL
  refine va_sld hx hb hX hbl hbA hS (zLin qx_1 (by decide) (by decide) hi6 hn6) dL_law_384 ?_
  refine lv_topi (fun a_3 ea_3 => ?_)
  refine lv_aload_n hx hb dL_law_385 rfl (lv_at hl 3 rfl) ?_
  refine lv_iload_n hx hb dL_law_386 rfl (lv_at hl 0 rfl) ?_
  refine lv_iconst (v := 2) hx hb dL_law_387 (by decide) ?_
  refine lv_iadd hx hb dL_law_388 ?_
  refine lv_topi (fun x_4 ex_4 => ?_)
  have qx_4 : x_4.toInt = i.toInt + 2 := zLadd ex_4 (by decide) (by decide) (by decide) hi6 hn6 hL
  refine va_sld hx hb hX hbl hbA hS (zLin qx_4 (by decide) (by decide) hi6 hn6) dL_law_389 ?_
  refine lv_topi (fun a_6 ea_6 => ?_)
  obtain ⟨j_7, hj_7, qj_7, pj_7⟩ := zjq2 sh (a_3 : Int32)
  replace hP := zP_perm hP (zSo_pout hj_7 _ _ _)
  replace hD := zD_perm hD (zSo_pout hj_7 _ _ _)
  have bhe_j_7 := hp_he j_7
  have bsi_j_7 := hp_si j_7
  obtain ⟨he_j_7, ehe_j_7⟩ : ∃ z : Int32, z = he j_7 := ⟨_, rfl⟩
  obtain ⟨si_j_7, esi_j_7⟩ : ∃ z : Int32, z = si j_7 := ⟨_, rfl⟩
  rw [← ehe_j_7] at bhe_j_7
  rw [← esi_j_7] at bsi_j_7
  rw [← ehe_j_7, ← esi_j_7] at hP hD
  skip
  refine zt_Vl (As := [.int a_3, .int a_6]) (rest := []) (ws := [(x0, .inr (7, [.ref xs, .ref j0, .ref k0, .ref w0, .ref rd, .ref mv, .ref xr, .int im, .int lf])), (xs, .inl (cS, 8, .inr (.inr (.inr (.inr (zS sh)))))), (zMO m0 npu nte nat_ nde nto nse nhu nga nsd nfa mrf mki mpa mta mla msl mco mhe mso msi msh mce mca mwo mnu mte nba npl nen nnu nwr mwa mke mma mth mtr nra nik), (mhe, .inl (cI, 8, .inl ghe)), (msi, .inl (cI, 8, .inl gsi)), (mce, .inl (cJ, 1280, .inr (.inl gce))), ((sh j_7), .inr (4, [.ref (el j_7), .int he_j_7, .int si_j_7])), ((el j_7), .inl (cJ, 160, .inr (.inl (fe j_7))))]) (wr := [(zMO m0 npu nte nat_ nde nto nse nhu nga nsd nfa mrf mki mpa mta mla msl mco mhe mso msi msh mce mca mwo mnu mte nba npl nen nnu nwr mwa mke mma mth mtr nra nik), (mhe, .inl (cI, 8, .inl ghe)), (msi, .inl (cI, 8, .inl gsi)), (mce, .inl (cJ, 1280, .inr (.inl gce)))]) ⟨hx, hb, hml, hown, hts⟩ (c_F_X_element l D cI cJ cZ cP cS po x0 xs j0 k0 w0 rd mv xr (im) (lf) ((fun _ => 0)) ((zS sh)) (a_3) ((sh j_7)) ((el j_7)) (he_j_7) (si_j_7) ((fe j_7)) (a_6) b_im.1 b_im.2 b_lf.1 b_lf.2 bhe_j_7.1 bhe_j_7.2 bsi_j_7.1 bsi_j_7.2 qj_7 H.size) (cwV 2 hts gq_30 rfl rfl rfl ⟨rfl, dh_X7_element⟩ ⟨Nat.le_of_ble_eq_true rfl, Nat.le_of_ble_eq_true rfl⟩) hK hN hP hD hS hA [0, 1, 6, 7] [2, 3, 4, 5] rfl rfl (by decide) (by decide) (by decide) (zE_law (isC := [0, 1, 6, 7]) hz1 hz2 hP hD hS hA rfl hpr) (va_recv (q := (RX7, TX7, 9)) hK hP (ci := 7) (q0 := 0) rfl rfl) rfl hl.1 rfl (Nat.le_of_ble_eq_true rfl) dL_law_390 ⟨zRmC hkc hn6 hL (by decide), zRmS hks hn6 hL (by decide)⟩ (fun r_8 u_9 H locs hr_8 hP hD hS => ?_)
  obtain ⟨hsr_8_0, hr_8⟩ := hr_8
  have h9R := zRe (ws' := ([(zMO m0 npu nte nat_ nde nto nse nhu nga nsd nfa mrf mki mpa mta mla msl mco mhe mso msi msh mce mca mwo mnu mte nba npl nen nnu nwr mwa mke mma mth mtr nra nik), (mhe, .inl (cI, 8, .inl ghe)), (msi, .inl (cI, 8, .inl gsi)), (mce, .inl (cJ, 1280, .inr (.inl gce))), (x0, .inr (7, [.ref xs, .ref j0, .ref k0, .ref w0, .ref rd, .ref mv, .ref xr, .int im, .int lf])), (xs, .inl (cS, 8, .inr (.inr (.inr (.inr (zS sh)))))), ((sh j_7), .inr (4, [.ref (el j_7), .int he_j_7, .int si_j_7])), ((el j_7), .inl (cJ, 160, .inr (.inl (fe j_7))))] ++ ((zShR cJ sh el he si fe j_7 ++ So) ++ po.1.map zPo))) hP hD rfl
  clear hP hD
  obtain ⟨hP, hD⟩ := h9R
  replace hP := zP_perm (show va_P D vwCl (([(zMO m0 npu nte nat_ nde nto nse nhu nga nsd nfa mrf mki mpa mta mla msl mco mhe mso msi msh mce mca mwo mnu mte nba npl nen nnu nwr mwa mke mma mth mtr nra nik), (mhe, .inl (cI, 8, .inl ghe)), (msi, .inl (cI, 8, .inl gsi)), (mce, .inl (cJ, 1280, .inr (.inl gce))), (x0, .inr (7, [.ref xs, .ref j0, .ref k0, .ref w0, .ref rd, .ref mv, .ref xr, .int im, .int lf])), (xs, .inl (cS, 8, .inr (.inr (.inr (.inr (zS sh))))))] ++ [((sh j_7), .inr (4, [.ref (el j_7), .int he_j_7, .int si_j_7])), ((el j_7), .inl (cJ, 160, .inr (.inl (fe j_7))))]) ++ ((zShR cJ sh el he si fe j_7 ++ So) ++ po.1.map zPo)) H from hP.part [0, 1, 2, 3, 4, 5, 6, 7] rfl) (zSo_pin hj_7 _ _ _ (he_j_7 : Int32) (si_j_7 : Int32) (fe j_7))
  replace hD := zD_perm (show va_D (fun q : Nat => s.heap.size ≤ q) (([(zMO m0 npu nte nat_ nde nto nse nhu nga nsd nfa mrf mki mpa mta mla msl mco mhe mso msi msh mce mca mwo mnu mte nba npl nen nnu nwr mwa mke mma mth mtr nra nik), (mhe, .inl (cI, 8, .inl ghe)), (msi, .inl (cI, 8, .inl gsi)), (mce, .inl (cJ, 1280, .inr (.inl gce))), (x0, .inr (7, [.ref xs, .ref j0, .ref k0, .ref w0, .ref rd, .ref mv, .ref xr, .int im, .int lf])), (xs, .inl (cS, 8, .inr (.inr (.inr (.inr (zS sh))))))] ++ [((sh j_7), .inr (4, [.ref (el j_7), .int he_j_7, .int si_j_7])), ((el j_7), .inl (cJ, 160, .inr (.inl (fe j_7))))]) ++ ((zShR cJ sh el he si fe j_7 ++ So) ++ po.1.map zPo)) from hD.part [0, 1, 2, 3, 4, 5, 6, 7] (by decide +kernel) rfl) (zSo_pin hj_7 _ _ _ (he_j_7 : Int32) (si_j_7 : Int32) (fe j_7))
  obtain ⟨he_10, ehe_10⟩ : ∃ z : Nat → Int32, z = va_up he j_7 (he_j_7 : Int32) := ⟨_, rfl⟩
  rw [← ehe_10] at hP hD
  have hp_he_10 : zRg he_10 (-1) 103 := by rw [ehe_10]; exact zRg_va hp_he bhe_j_7
  obtain ⟨si_11, esi_11⟩ : ∃ z : Nat → Int32, z = va_up si j_7 (si_j_7 : Int32) := ⟨_, rfl⟩
  rw [← esi_11] at hP hD
  have hp_si_11 : zRg si_11 (0) 160 := by rw [esi_11]; exact zRg_va hp_si bsi_j_7
  obtain ⟨fe_12, efe_12⟩ : ∃ z : Nat → Nat → Int64, z = va_up fe j_7 (fe j_7) := ⟨_, rfl⟩
  rw [← efe_12] at hP hD
  have h9R := zRe (ws' := ([(zMO m0 npu nte nat_ nde nto nse nhu nga nsd nfa mrf mki mpa mta mla msl mco mhe mso msi msh mce mca mwo mnu mte nba npl nen nnu nwr mwa mke mma mth mtr nra nik), (mhe, .inl (cI, 8, .inl ghe)), (msi, .inl (cI, 8, .inl gsi)), (mce, .inl (cJ, 1280, .inr (.inl gce))), (x0, .inr (7, [.ref xs, .ref j0, .ref k0, .ref w0, .ref rd, .ref mv, .ref xr, .int im, .int lf])), (xs, .inl (cS, 8, .inr (.inr (.inr (.inr (zS sh))))))] ++ ((zShW cJ sh el he_10 si_11 fe_12 ++ So) ++ po.1.map zPo))) hP hD rfl
  clear hP hD
  obtain ⟨hP, hD⟩ := h9R
  refine lv_pop2_2 hx hb dL_law_393 rfl ?_
  refine lv_aload_n hx hb dL_law_394 rfl (lv_at hl 1 rfl) ?_
  refine lv_aload_n hx hb dL_law_395 rfl (lv_at hl 3 rfl) ?_
  refine lv_iload_n hx hb dL_law_396 rfl (lv_at hl 0 rfl) ?_
  refine lv_iconst (v := 1) hx hb dL_law_397 (by decide) ?_
  refine lv_iadd hx hb dL_law_398 ?_
  refine lv_topi (fun y_13 ey_13 => ?_)
  obtain rfl : x_1 = y_13 := ex_1.trans ey_13.symm
  refine va_sld hx hb hX hbl hbA hS (zLin qx_1 (by decide) (by decide) hi6 hn6) dL_law_399 ?_
  refine lv_topi (fun y_14 ey_14 => ?_)
  obtain rfl : a_3 = y_14 := ea_3.trans ey_14.symm
  refine lv_aload_n hx hb dL_law_400 rfl (lv_at hl 3 rfl) ?_
  refine lv_iload_n hx hb dL_law_401 rfl (lv_at hl 0 rfl) ?_
  refine lv_iconst (v := 2) hx hb dL_law_402 (by decide) ?_
  refine lv_iadd hx hb dL_law_403 ?_
  refine lv_topi (fun y_15 ey_15 => ?_)
  obtain rfl : x_4 = y_15 := ex_4.trans ey_15.symm
  refine va_sld hx hb hX hbl hbA hS (zLin qx_4 (by decide) (by decide) hi6 hn6) dL_law_404 ?_
  refine lv_topi (fun y_16 ey_16 => ?_)
  obtain rfl : a_6 = y_16 := ea_6.trans ey_16.symm
  skip
  refine zt_Vl (As := [.int a_3, .int a_6]) (rest := []) (ws := [(zMO m0 npu nte nat_ nde nto nse nhu nga nsd nfa mrf mki mpa mta mla msl mco mhe mso msi msh mce mca mwo mnu mte nba npl nen nnu nwr mwa mke mma mth mtr nra nik), (mhe, .inl (cI, 8, .inl ghe)), (msi, .inl (cI, 8, .inl gsi)), (mce, .inl (cJ, 1280, .inr (.inl gce))), (x0, .inr (7, [.ref xs, .ref j0, .ref k0, .ref w0, .ref rd, .ref mv, .ref xr, .int im, .int lf])), (xs, .inl (cS, 8, .inr (.inr (.inr (.inr (zS sh))))))]) (wr := [(x0, .inr (7, [.ref xs, .ref j0, .ref k0, .ref w0, .ref rd, .ref mv, .ref xr, .int im, .int lf])), (xs, .inl (cS, 8, .inr (.inr (.inr (.inr (zS sh))))))]) ⟨hx, hb, hml, hown, hts⟩ (c_F_M_element l D cI cJ cZ cP cS po m0 mrf mki mpa mta mla msl mco mhe mso msi msh mce mca mwo mnu mte mwa mke mma mth mtr (npu) (nte) (nat_) (nde) (nto) (nse) (nhu) (nga) (nsd) (nfa) (nba) (npl) (nen) (nnu) (nwr) (nra) (nik) ghe gsi gce (a_3) (a_6) b_npu.1 b_npu.2 b_nte.1 b_nte.2 b_nat_.1 b_nat_.2 b_nde.1 b_nde.2 b_nhu.1 b_nhu.2 b_nra.1 b_nra.2 b_nik.1 b_nik.2 hp_ghe hp_gsi H.size) (cwV 2 hts gq_34 rfl rfl rfl ⟨rfl, dh_X8_element⟩ ⟨Nat.le_of_ble_eq_true rfl, Nat.le_of_ble_eq_true rfl⟩) hK hN hP hD hS hA [0, 1, 2, 3] [4, 5] rfl rfl (by decide) (by decide) (by decide) (zE_law (isC := [0, 1, 2, 3]) hz1 hz2 hP hD hS hA rfl hpr) (va_recv (q := (RX8, TX8, 38)) hK hP (ci := 8) (q0 := 0) rfl rfl) rfl hl.1 rfl (Nat.le_of_ble_eq_true rfl) dL_law_405 ⟨zRmC hkc hn6 hL (by decide), zRmS hks hn6 hL (by decide)⟩ (fun r_17 u_18 H locs hr_17 hP hD hS => ?_)
  obtain ⟨hsr_17_0, hr_17⟩ := hr_17
  have h9R := zRe (ws' := ([(x0, .inr (7, [.ref xs, .ref j0, .ref k0, .ref w0, .ref rd, .ref mv, .ref xr, .int im, .int lf])), (xs, .inl (cS, 8, .inr (.inr (.inr (.inr (zS sh)))))), (zMO m0 npu nte nat_ nde nto nse nhu nga nsd nfa mrf mki mpa mta mla msl mco mhe mso msi msh mce mca mwo mnu mte nba npl nen nnu nwr mwa mke mma mth mtr nra nik), (mhe, .inl (cI, 8, .inl ghe)), (msi, .inl (cI, 8, .inl gsi)), (mce, .inl (cJ, 1280, .inr (.inl gce)))] ++ ((zShW cJ sh el he_10 si_11 fe_12 ++ So) ++ po.1.map zPo))) hP hD rfl
  clear hP hD
  obtain ⟨hP, hD⟩ := h9R
  have hR9 : zRel he_10 si_11 fe_12 ghe gso gsi gsh gce := by rw [ehe_10, esi_11, efe_12, ehe_j_7, esi_j_7, zUpS, zUpS, zUpS]; exact hR
  have hA : r_8 = r_17 := by rw [hsr_8_0, hsr_17_0, ehe_j_7, esi_j_7]; exact zRel_elR hR hHS hp_ghe hp_gso hp_si hj_7 pj_7
  refine lv_pop2_2 hx hb dL_law_408 rfl ?_
  refine lv_goto (tgt := 1370) hx hb dL_law_409 (by decide) ?_
  exact hnx im lf npu nte nat_ nde nto nse nhu nga nsd nfa nba npl nen nnu nwr nra nik ghe gsi he_10 si_11 gce fe_12 b_im b_lf b_npu b_nte b_nat_ b_nde b_nhu b_nra b_nik hp_ghe hp_gsi hp_he_10 hp_si_11 hHS hik hR9 hcn hsz him hlf hkq hT hTk hKI hKk hNu hNk _ _ (zRmN hkc) (zRmM hks) H locs (hP.part [0, 1, 2, 3, 4, 5] rfl) (hD.part [0, 1, 2, 3, 4, 5] (by decide +kernel) rfl) hS ls (lv_sub hl [0, 1, 2, 3] rfl)
set_option maxHeartbeats 16000000 in
set_option maxRecDepth 200000 in
theorem law_core_4 {p : Program} {l : Launch} {e : Env} {s : State} {m : MethodId} {below : List Frame} {meth : Method} {c : Code} {D : va_G} {cI cJ cZ cP cS : ClassId} {b L : Nat} {xs_ : Nat → Int32} (x0 xs j0 k0 w0 rd mv xr z0 jp jc m0 mrf mki mpa mta mla msl mco mhe mso msi msh mce mca mwo mnu mte mwa mke mma mth mtr : Nat) (sh el : Nat → Nat) {So : va_W} (n nkc nks : Nat) (i : Int32) (po : zPool) (im lf cn de tr se hu sd sz at_ gp kcn kde ktr kse khu ksd ksz kat kgp npu nte nat_ nde nto nse nhu nga nsd nfa nba npl nen nnu nwr nra nik : Int32) (fzl fzs fjc fkzl fkzs fkc fxr grf gki gpa gta gla gsl gco ghe gso gsi gsh gke he si kf af tf kkf kaf ktf : Nat → Int32) (gce : Nat → Int64) (fp : Nat → Option Nat) (fe : Nat → Nat → Int64) (C0 : lw_At p s m meth c b L xs_) (hK : va_K D vwCl (zKT cI cJ cZ cP cS) s) (hN : zN s) (hz1 : zSt (fun q : Nat => s.heap.size ≤ q) s s.heap) (hL : L ≤ 3072) (b_im : 0 ≤ im.toInt ∧ im.toInt ≤ 1) (b_lf : (-1) ≤ lf.toInt ∧ lf.toInt ≤ 160) (b_cn : 0 ≤ cn.toInt ∧ cn.toInt ≤ 8) (b_de : 0 ≤ de.toInt ∧ de.toInt ≤ 24) (b_se : 0 ≤ se.toInt ∧ se.toInt ≤ 300) (b_hu : 0 ≤ hu.toInt ∧ hu.toInt ≤ 9) (b_npu : 0 ≤ npu.toInt ∧ npu.toInt ≤ 8) (b_nte : 4 ≤ nte.toInt ∧ nte.toInt ≤ 40) (b_nat_ : 0 ≤ nat_.toInt ∧ nat_.toInt ≤ 40) (b_nde : 0 ≤ nde.toInt ∧ nde.toInt ≤ 24) (b_nhu : 0 ≤ nhu.toInt ∧ nhu.toInt ≤ 9) (b_nra : 0 ≤ nra.toInt ∧ nra.toInt ≤ 2000) (b_nik : 0 ≤ nik.toInt ∧ nik.toInt ≤ 1) (hp_ghe : zRg ghe (0) 2) (hp_gsh : zRg gsh (-1) 7) (hp_he : zRg he (-1) 103) (hp_si : zRg si (0) 160) (hjp : zJP po fp cn kf af tf) (hjwp : zWP po fp) (hHS : zHS ghe gsh) (hik : (nik.toInt = 1 → zKp gke)) (hR : zRel he si fe ghe gso gsi gsh gce) (hcn : cn.toInt = npu.toInt) (hsz : sz.toInt = nte.toInt) (him : im.toInt = nik.toInt) (hlf : lf.toInt = nfa.toInt) (hkq : (nik.toInt = 1 → kcn.toInt = (gke 107).toInt ∧ ksz.toInt = (gke 108).toInt)) (hT : zTt fzl fzs gla gsl gp nga) (hTk : (nik.toInt = 1 → zTk_ fkzl fkzs gke kgp)) (hKI : zTp kf af tf gki gpa gta hu nhu) (hKk : (nik.toInt = 1 → zTq kkf kaf ktf gke khu)) (hNu : zNu de at_ se tr sd fjc nde nat_ nse nto nsd gco) (hNk : (nik.toInt = 1 → zNk kde kat kse ktr ksd fkc gke)) (hz2 : zStr po (fun q : Nat => s.heap.size ≤ q) s s.heap) (hpr : ∀ z ∈ po.1, zPr z.2.1 z.2.2.1 z.2.2.2) (hkc : nkc ≤ 100 + 40 * n) (hks : nks ≤ 10000 + 120 * n) (hi6 : i.toInt = 6 * (n : Int)) (hn6 : 6 * (n : Int) + 6 ≤ (L : Int)) (H : Heap) (locs : List Loc) (hP : va_P D vwCl ([(x0, .inr (7, [.ref xs, .ref j0, .ref k0, .ref w0, .ref rd, .ref mv, .ref xr, .int im, .int lf])), (xs, .inl (cS, 8, .inr (.inr (.inr (.inr (zS sh)))))), (j0, .inr (0, [.ref z0, .ref jp, .ref jc, .int cn, .int de, .int tr, .int se, .int hu, .int sd])), (jp, .inl (cP, 8, .inr (.inr (.inr (.inr fp))))), (xr, .inl (cI, 8, .inl fxr)), (zMO m0 npu nte nat_ nde nto nse nhu nga nsd nfa mrf mki mpa mta mla msl mco mhe mso msi msh mce mca mwo mnu mte nba npl nen nnu nwr mwa mke mma mth mtr nra nik), (mrf, .inl (cI, 8, .inl grf)), (mhe, .inl (cI, 8, .inl ghe)), (msh, .inl (cI, 8, .inl gsh))] ++ ((zShW cJ sh el he si fe ++ So) ++ po.1.map zPo)) H) (hD : va_D (fun q : Nat => s.heap.size ≤ q) ([(x0, .inr (7, [.ref xs, .ref j0, .ref k0, .ref w0, .ref rd, .ref mv, .ref xr, .int im, .int lf])), (xs, .inl (cS, 8, .inr (.inr (.inr (.inr (zS sh)))))), (j0, .inr (0, [.ref z0, .ref jp, .ref jc, .int cn, .int de, .int tr, .int se, .int hu, .int sd])), (jp, .inl (cP, 8, .inr (.inr (.inr (.inr fp))))), (xr, .inl (cI, 8, .inl fxr)), (zMO m0 npu nte nat_ nde nto nse nhu nga nsd nfa mrf mki mpa mta mla msl mco mhe mso msi msh mce mca mwo mnu mte nba npl nen nnu nwr mwa mke mma mth mtr nra nik), (mrf, .inl (cI, 8, .inl grf)), (mhe, .inl (cI, 8, .inl ghe)), (msh, .inl (cI, 8, .inl gsh))] ++ ((zShW cJ sh el he si fe ++ So) ++ po.1.map zPo))) (hS : va_S (fun q : Nat => s.heap.size ≤ q) s.heap H locs) (ls : Array Slot) (hl : lv_has ls 4 [(3, .int i), (2, .ref m0), (1, .ref x0), (0, .ref b)]) (hnx : ∀ (im lf cn de tr se hu sd npu nte nat_ nde nto nse nhu nga nsd nfa nba npl nen nnu nwr nra nik : Int32) (fxr grf ghe gsh he si kf af tf : Nat → Int32) (fp : Nat → Option Nat) (fe : Nat → Nat → Int64) (b_im : 0 ≤ im.toInt ∧ im.toInt ≤ 1) (b_lf : (-1) ≤ lf.toInt ∧ lf.toInt ≤ 160) (b_cn : 0 ≤ cn.toInt ∧ cn.toInt ≤ 8) (b_de : 0 ≤ de.toInt ∧ de.toInt ≤ 24) (b_se : 0 ≤ se.toInt ∧ se.toInt ≤ 300) (b_hu : 0 ≤ hu.toInt ∧ hu.toInt ≤ 9) (b_npu : 0 ≤ npu.toInt ∧ npu.toInt ≤ 8) (b_nte : 4 ≤ nte.toInt ∧ nte.toInt ≤ 40) (b_nat_ : 0 ≤ nat_.toInt ∧ nat_.toInt ≤ 40) (b_nde : 0 ≤ nde.toInt ∧ nde.toInt ≤ 24) (b_nhu : 0 ≤ nhu.toInt ∧ nhu.toInt ≤ 9) (b_nra : 0 ≤ nra.toInt ∧ nra.toInt ≤ 2000) (b_nik : 0 ≤ nik.toInt ∧ nik.toInt ≤ 1) (hp_ghe : zRg ghe (0) 2) (hp_gsh : zRg gsh (-1) 7) (hp_he : zRg he (-1) 103) (hp_si : zRg si (0) 160) (hjp : zJP po fp cn kf af tf) (hjwp : zWP po fp) (hHS : zHS ghe gsh) (hik : (nik.toInt = 1 → zKp gke)) (hR : zRel he si fe ghe gso gsi gsh gce) (hcn : cn.toInt = npu.toInt) (hsz : sz.toInt = nte.toInt) (him : im.toInt = nik.toInt) (hlf : lf.toInt = nfa.toInt) (hkq : (nik.toInt = 1 → kcn.toInt = (gke 107).toInt ∧ ksz.toInt = (gke 108).toInt)) (hT : zTt fzl fzs gla gsl gp nga) (hTk : (nik.toInt = 1 → zTk_ fkzl fkzs gke kgp)) (hKI : zTp kf af tf gki gpa gta hu nhu) (hKk : (nik.toInt = 1 → zTq kkf kaf ktf gke khu)) (hNu : zNu de at_ se tr sd fjc nde nat_ nse nto nsd gco) (hNk : (nik.toInt = 1 → zNk kde kat kse ktr ksd fkc gke)) (nkc nks : Nat) (hkc : nkc ≤ 100 + 40 * (n + 1)) (hks : nks ≤ 10000 + 120 * (n + 1)) (H : Heap) (locs : List Loc) (hP : va_P D vwCl ([(x0, .inr (7, [.ref xs, .ref j0, .ref k0, .ref w0, .ref rd, .ref mv, .ref xr, .int im, .int lf])), (xs, .inl (cS, 8, .inr (.inr (.inr (.inr (zS sh)))))), (j0, .inr (0, [.ref z0, .ref jp, .ref jc, .int cn, .int de, .int tr, .int se, .int hu, .int sd])), (jp, .inl (cP, 8, .inr (.inr (.inr (.inr fp))))), (xr, .inl (cI, 8, .inl fxr)), (zMO m0 npu nte nat_ nde nto nse nhu nga nsd nfa mrf mki mpa mta mla msl mco mhe mso msi msh mce mca mwo mnu mte nba npl nen nnu nwr mwa mke mma mth mtr nra nik), (mrf, .inl (cI, 8, .inl grf)), (mhe, .inl (cI, 8, .inl ghe)), (msh, .inl (cI, 8, .inl gsh))] ++ ((zShW cJ sh el he si fe ++ So) ++ po.1.map zPo)) H) (hD : va_D (fun q : Nat => s.heap.size ≤ q) ([(x0, .inr (7, [.ref xs, .ref j0, .ref k0, .ref w0, .ref rd, .ref mv, .ref xr, .int im, .int lf])), (xs, .inl (cS, 8, .inr (.inr (.inr (.inr (zS sh)))))), (j0, .inr (0, [.ref z0, .ref jp, .ref jc, .int cn, .int de, .int tr, .int se, .int hu, .int sd])), (jp, .inl (cP, 8, .inr (.inr (.inr (.inr fp))))), (xr, .inl (cI, 8, .inl fxr)), (zMO m0 npu nte nat_ nde nto nse nhu nga nsd nfa mrf mki mpa mta mla msl mco mhe mso msi msh mce mca mwo mnu mte nba npl nen nnu nwr mwa mke mma mth mtr nra nik), (mrf, .inl (cI, 8, .inl grf)), (mhe, .inl (cI, 8, .inl ghe)), (msh, .inl (cI, 8, .inl gsh))] ++ ((zShW cJ sh el he si fe ++ So) ++ po.1.map zPo))) (hS : va_S (fun q : Nat => s.heap.size ≤ q) s.heap H locs) (ls : Array Slot) (hl : lv_has ls 4 [(3, .int i), (2, .ref m0), (1, .ref x0), (0, .ref b)]), W p l e room_1 s m #[Value.ref b] below meth c H locs nkc nks (lw_Z below #[Value.ref b] s) (F0 m 1370 ls [])) : W p l e room_1 s m #[Value.ref b] below meth c H locs nkc nks (lw_Z below #[Value.ref b] s) (F0 m 412 ls []) := by
  obtain ⟨hx, hb, hr, hml, hown0, hts, hX, hbl, hlocks, hgv⟩ := id C0
  have hown : s.vm.findClass RL = some m.cls := hown0
  have hA : ∀ q : Nat, s.heap.size ≤ q → (fun q : Nat => s.heap.size ≤ q) q := fun _ h => h
  have hbA : ¬ (fun q : Nat => s.heap.size ≤ q) b := Nat.not_le.mpr hbl
  obtain ⟨hNa, hNb, hNc, -⟩ := id hNu
  refine lv_aload_n hx hb dL_law_412 rfl (lv_at hl 2 rfl) ?_
  refine lv_aload_n hx hb dL_law_413 rfl (lv_at hl 3 rfl) ?_
  refine lv_iload_n hx hb dL_law_414 rfl (lv_at hl 0 rfl) ?_
  refine lv_iconst (v := 1) hx hb dL_law_415 (by decide) ?_
  refine lv_iadd hx hb dL_law_416 ?_
  refine lv_topi (fun x_1 ex_1 => ?_)
  have qx_1 : x_1.toInt = i.toInt + 1 := zLadd ex_1 (by decide) (by decide) (by decide) hi6 hn6 hL
  refine va_sld hx hb hX hbl hbA hS (zLin qx_1 (by decide) (by decide) hi6 hn6) dL_law_417 ?_
  refine lv_topi (fun a_3 ea_3 => ?_)
  refine lv_aload_n hx hb dL_law_418 rfl (lv_at hl 3 rfl) ?_
  refine lv_iload_n hx hb dL_law_419 rfl (lv_at hl 0 rfl) ?_
  refine lv_iconst (v := 2) hx hb dL_law_420 (by decide) ?_
  refine lv_iadd hx hb dL_law_421 ?_
  refine lv_topi (fun x_4 ex_4 => ?_)
  have qx_4 : x_4.toInt = i.toInt + 2 := zLadd ex_4 (by decide) (by decide) (by decide) hi6 hn6 hL
  refine va_sld hx hb hX hbl hbA hS (zLin qx_4 (by decide) (by decide) hi6 hn6) dL_law_422 ?_
  refine lv_topi (fun a_6 ea_6 => ?_)
  obtain ⟨j_7, hj_7, qj_7, pj_7⟩ := zjq2 sh (a_3 : Int32)
  replace hP := zP_perm hP (zSo_pout hj_7 _ _ _)
  replace hD := zD_perm hD (zSo_pout hj_7 _ _ _)
  have bhe_j_7 := hp_he j_7
  have bsi_j_7 := hp_si j_7
  obtain ⟨he_j_7, ehe_j_7⟩ : ∃ z : Int32, z = he j_7 := ⟨_, rfl⟩
  obtain ⟨si_j_7, esi_j_7⟩ : ∃ z : Int32, z = si j_7 := ⟨_, rfl⟩
  rw [← ehe_j_7] at bhe_j_7
  rw [← esi_j_7] at bsi_j_7
  rw [← ehe_j_7, ← esi_j_7] at hP hD
  skip
  refine zt_V (As := [.int a_3, .int a_6]) (rest := []) (ws := [(x0, .inr (7, [.ref xs, .ref j0, .ref k0, .ref w0, .ref rd, .ref mv, .ref xr, .int im, .int lf])), (xs, .inl (cS, 8, .inr (.inr (.inr (.inr (zS sh)))))), (j0, .inr (0, [.ref z0, .ref jp, .ref jc, .int cn, .int de, .int tr, .int se, .int hu, .int sd])), (jp, .inl (cP, 8, .inr (.inr (.inr (.inr fp))))), (xr, .inl (cI, 8, .inl fxr)), (zMO m0 npu nte nat_ nde nto nse nhu nga nsd nfa mrf mki mpa mta mla msl mco mhe mso msi msh mce mca mwo mnu mte nba npl nen nnu nwr mwa mke mma mth mtr nra nik), (mrf, .inl (cI, 8, .inl grf)), (mhe, .inl (cI, 8, .inl ghe)), (msh, .inl (cI, 8, .inl gsh)), ((sh j_7), .inr (4, [.ref (el j_7), .int he_j_7, .int si_j_7])), ((el j_7), .inl (cJ, 160, .inr (.inl (fe j_7))))]) (wr := [(zMO m0 npu nte nat_ nde nto nse nhu nga nsd nfa mrf mki mpa mta mla msl mco mhe mso msi msh mce mca mwo mnu mte nba npl nen nnu nwr mwa mke mma mth mtr nra nik), (mrf, .inl (cI, 8, .inl grf)), (mhe, .inl (cI, 8, .inl ghe)), (msh, .inl (cI, 8, .inl gsh)), ((el j_7), .inl (cJ, 160, .inr (.inl (fe j_7))))]) ⟨hx, hb, hml, hown, hts⟩ (c_F_X_show l D cI cJ cZ cP cS po x0 xs j0 k0 w0 rd mv xr (im) (lf) fxr ((zS sh)) (a_3) ((sh j_7)) ((el j_7)) (he_j_7) (si_j_7) j0 jp jc z0 0 0 (cn) (de) (tr) (se) (hu) (sd) fp kf af tf (a_6) b_im.1 b_im.2 b_lf.1 b_lf.2 bhe_j_7.1 bhe_j_7.2 bsi_j_7.1 bsi_j_7.2 qj_7 b_cn.1 b_cn.2 b_de.1 b_de.2 b_hu.1 b_hu.2 hjp H.size) (cwV 2 hts gq_35 rfl rfl rfl ⟨rfl, dh_X7_show⟩ ⟨Nat.le_of_ble_eq_true rfl, Nat.le_of_ble_eq_true rfl⟩) hK hN hP hD hS hA [0, 4, 1, 9, 2, 3] [5, 6, 7, 8, 10] rfl rfl (by decide) (by decide) (by decide) (zE_law (isC := [0, 4, 1, 9, 2, 3]) hz1 hz2 hP hD hS hA rfl hpr) (va_recv (q := (RX7, TX7, 9)) hK hP (ci := 7) (q0 := 0) rfl rfl) rfl hl.1 rfl (Nat.le_of_ble_eq_true rfl) dL_law_423 ⟨zRmC hkc hn6 hL (by decide), zRmS hks hn6 hL (by decide)⟩ (fun r_8 u_9 H locs hr_8 hP hD hS => ?_)
  obtain ⟨q_10, q_11⟩ := u_9
  try dsimp only at hr_8
  obtain ⟨hbq_10, hsr_8_0, hr_8⟩ := hr_8
  have h9R := zRe (ws' := ([(zMO m0 npu nte nat_ nde nto nse nhu nga nsd nfa mrf mki mpa mta mla msl mco mhe mso msi msh mce mca mwo mnu mte nba npl nen nnu nwr mwa mke mma mth mtr nra nik), (mrf, .inl (cI, 8, .inl grf)), (mhe, .inl (cI, 8, .inl ghe)), (msh, .inl (cI, 8, .inl gsh)), ((el j_7), .inl (cJ, 160, .inr (.inl (fe j_7)))), (x0, .inr (7, [.ref xs, .ref j0, .ref k0, .ref w0, .ref rd, .ref mv, .ref xr, .int im, .int lf])), (xr, .inl (cI, 8, .inl q_11)), (xs, .inl (cS, 8, .inr (.inr (.inr (.inr (zS sh)))))), ((sh j_7), .inr (4, [.ref (el j_7), .int q_10, .int si_j_7])), (j0, .inr (0, [.ref z0, .ref jp, .ref jc, .int cn, .int de, .int tr, .int se, .int hu, .int sd])), (jp, .inl (cP, 8, .inr (.inr (.inr (.inr fp)))))] ++ ((zShR cJ sh el he si fe j_7 ++ So) ++ po.1.map zPo))) hP hD rfl
  clear hP hD
  obtain ⟨hP, hD⟩ := h9R
  replace hP := zP_perm (show va_P D vwCl (([(zMO m0 npu nte nat_ nde nto nse nhu nga nsd nfa mrf mki mpa mta mla msl mco mhe mso msi msh mce mca mwo mnu mte nba npl nen nnu nwr mwa mke mma mth mtr nra nik), (mrf, .inl (cI, 8, .inl grf)), (mhe, .inl (cI, 8, .inl ghe)), (msh, .inl (cI, 8, .inl gsh)), (x0, .inr (7, [.ref xs, .ref j0, .ref k0, .ref w0, .ref rd, .ref mv, .ref xr, .int im, .int lf])), (xr, .inl (cI, 8, .inl q_11)), (xs, .inl (cS, 8, .inr (.inr (.inr (.inr (zS sh)))))), (j0, .inr (0, [.ref z0, .ref jp, .ref jc, .int cn, .int de, .int tr, .int se, .int hu, .int sd])), (jp, .inl (cP, 8, .inr (.inr (.inr (.inr fp)))))] ++ [((sh j_7), .inr (4, [.ref (el j_7), .int q_10, .int si_j_7])), ((el j_7), .inl (cJ, 160, .inr (.inl (fe j_7))))]) ++ ((zShR cJ sh el he si fe j_7 ++ So) ++ po.1.map zPo)) H from hP.part [0, 1, 2, 3, 5, 6, 7, 9, 10, 8, 4] rfl) (zSo_pin hj_7 _ _ _ (q_10 : Int32) (si_j_7 : Int32) (fe j_7))
  replace hD := zD_perm (show va_D (fun q : Nat => s.heap.size ≤ q) (([(zMO m0 npu nte nat_ nde nto nse nhu nga nsd nfa mrf mki mpa mta mla msl mco mhe mso msi msh mce mca mwo mnu mte nba npl nen nnu nwr mwa mke mma mth mtr nra nik), (mrf, .inl (cI, 8, .inl grf)), (mhe, .inl (cI, 8, .inl ghe)), (msh, .inl (cI, 8, .inl gsh)), (x0, .inr (7, [.ref xs, .ref j0, .ref k0, .ref w0, .ref rd, .ref mv, .ref xr, .int im, .int lf])), (xr, .inl (cI, 8, .inl q_11)), (xs, .inl (cS, 8, .inr (.inr (.inr (.inr (zS sh)))))), (j0, .inr (0, [.ref z0, .ref jp, .ref jc, .int cn, .int de, .int tr, .int se, .int hu, .int sd])), (jp, .inl (cP, 8, .inr (.inr (.inr (.inr fp)))))] ++ [((sh j_7), .inr (4, [.ref (el j_7), .int q_10, .int si_j_7])), ((el j_7), .inl (cJ, 160, .inr (.inl (fe j_7))))]) ++ ((zShR cJ sh el he si fe j_7 ++ So) ++ po.1.map zPo)) from hD.part [0, 1, 2, 3, 5, 6, 7, 9, 10, 8, 4] (by decide +kernel) rfl) (zSo_pin hj_7 _ _ _ (q_10 : Int32) (si_j_7 : Int32) (fe j_7))
  obtain ⟨he_12, ehe_12⟩ : ∃ z : Nat → Int32, z = va_up he j_7 (q_10 : Int32) := ⟨_, rfl⟩
  rw [← ehe_12] at hP hD
  have hp_he_12 : zRg he_12 (-1) 103 := by rw [ehe_12]; exact zRg_va hp_he hbq_10
  obtain ⟨si_13, esi_13⟩ : ∃ z : Nat → Int32, z = va_up si j_7 (si_j_7 : Int32) := ⟨_, rfl⟩
  rw [← esi_13] at hP hD
  have hp_si_13 : zRg si_13 (0) 160 := by rw [esi_13]; exact zRg_va hp_si bsi_j_7
  obtain ⟨fe_14, efe_14⟩ : ∃ z : Nat → Nat → Int64, z = va_up fe j_7 (fe j_7) := ⟨_, rfl⟩
  rw [← efe_14] at hP hD
  have h9R := zRe (ws' := ([(zMO m0 npu nte nat_ nde nto nse nhu nga nsd nfa mrf mki mpa mta mla msl mco mhe mso msi msh mce mca mwo mnu mte nba npl nen nnu nwr mwa mke mma mth mtr nra nik), (mrf, .inl (cI, 8, .inl grf)), (mhe, .inl (cI, 8, .inl ghe)), (msh, .inl (cI, 8, .inl gsh)), (x0, .inr (7, [.ref xs, .ref j0, .ref k0, .ref w0, .ref rd, .ref mv, .ref xr, .int im, .int lf])), (xr, .inl (cI, 8, .inl q_11)), (xs, .inl (cS, 8, .inr (.inr (.inr (.inr (zS sh)))))), (j0, .inr (0, [.ref z0, .ref jp, .ref jc, .int cn, .int de, .int tr, .int se, .int hu, .int sd])), (jp, .inl (cP, 8, .inr (.inr (.inr (.inr fp)))))] ++ ((zShW cJ sh el he_12 si_13 fe_14 ++ So) ++ po.1.map zPo))) hP hD rfl
  clear hP hD
  obtain ⟨hP, hD⟩ := h9R
  refine lv_pop hx hb dL_law_426 rfl ?_
  refine lv_aload_n hx hb dL_law_427 rfl (lv_at hl 1 rfl) ?_
  refine lv_aload_n hx hb dL_law_428 rfl (lv_at hl 3 rfl) ?_
  refine lv_iload_n hx hb dL_law_429 rfl (lv_at hl 0 rfl) ?_
  refine lv_iconst (v := 1) hx hb dL_law_430 (by decide) ?_
  refine lv_iadd hx hb dL_law_431 ?_
  refine lv_topi (fun y_15 ey_15 => ?_)
  obtain rfl : x_1 = y_15 := ex_1.trans ey_15.symm
  refine va_sld hx hb hX hbl hbA hS (zLin qx_1 (by decide) (by decide) hi6 hn6) dL_law_432 ?_
  refine lv_topi (fun y_16 ey_16 => ?_)
  obtain rfl : a_3 = y_16 := ea_3.trans ey_16.symm
  refine lv_aload_n hx hb dL_law_433 rfl (lv_at hl 3 rfl) ?_
  refine lv_iload_n hx hb dL_law_434 rfl (lv_at hl 0 rfl) ?_
  refine lv_iconst (v := 2) hx hb dL_law_435 (by decide) ?_
  refine lv_iadd hx hb dL_law_436 ?_
  refine lv_topi (fun y_17 ey_17 => ?_)
  obtain rfl : x_4 = y_17 := ex_4.trans ey_17.symm
  refine va_sld hx hb hX hbl hbA hS (zLin qx_4 (by decide) (by decide) hi6 hn6) dL_law_437 ?_
  refine lv_topi (fun y_18 ey_18 => ?_)
  obtain rfl : a_6 = y_18 := ea_6.trans ey_18.symm
  skip
  refine zt_V (As := [.int a_3, .int a_6]) (rest := []) (ws := [(zMO m0 npu nte nat_ nde nto nse nhu nga nsd nfa mrf mki mpa mta mla msl mco mhe mso msi msh mce mca mwo mnu mte nba npl nen nnu nwr mwa mke mma mth mtr nra nik), (mrf, .inl (cI, 8, .inl grf)), (mhe, .inl (cI, 8, .inl ghe)), (msh, .inl (cI, 8, .inl gsh)), (x0, .inr (7, [.ref xs, .ref j0, .ref k0, .ref w0, .ref rd, .ref mv, .ref xr, .int im, .int lf])), (xr, .inl (cI, 8, .inl q_11)), (xs, .inl (cS, 8, .inr (.inr (.inr (.inr (zS sh)))))), (j0, .inr (0, [.ref z0, .ref jp, .ref jc, .int cn, .int de, .int tr, .int se, .int hu, .int sd])), (jp, .inl (cP, 8, .inr (.inr (.inr (.inr fp)))))]) (wr := [(x0, .inr (7, [.ref xs, .ref j0, .ref k0, .ref w0, .ref rd, .ref mv, .ref xr, .int im, .int lf])), (xr, .inl (cI, 8, .inl q_11)), (xs, .inl (cS, 8, .inr (.inr (.inr (.inr (zS sh)))))), (j0, .inr (0, [.ref z0, .ref jp, .ref jc, .int cn, .int de, .int tr, .int se, .int hu, .int sd])), (jp, .inl (cP, 8, .inr (.inr (.inr (.inr fp)))))]) ⟨hx, hb, hml, hown, hts⟩ (c_F_M_show l D cI cJ cZ cP cS po m0 mrf mki mpa mta mla msl mco mhe mso msi msh mce mca mwo mnu mte mwa mke mma mth mtr (npu) (nte) (nat_) (nde) (nto) (nse) (nhu) (nga) (nsd) (nfa) (nba) (npl) (nen) (nnu) (nwr) (nra) (nik) grf ghe gsh (a_3) (a_6) b_npu.1 b_npu.2 b_nte.1 b_nte.2 b_nat_.1 b_nat_.2 b_nde.1 b_nde.2 b_nhu.1 b_nhu.2 b_nra.1 b_nra.2 b_nik.1 b_nik.2 hHS hp_ghe hp_gsh H.size) (cwV 2 hts gq_39 rfl rfl rfl ⟨rfl, dh_X8_show⟩ ⟨Nat.le_of_ble_eq_true rfl, Nat.le_of_ble_eq_true rfl⟩) hK hN hP hD hS hA [0, 1, 2, 3] [4, 5, 6, 7, 8] rfl rfl (by decide) (by decide) (by decide) (zE_law (isC := [0, 1, 2, 3]) hz1 hz2 hP hD hS hA rfl hpr) (va_recv (q := (RX8, TX8, 38)) hK hP (ci := 8) (q0 := 0) rfl rfl) rfl hl.1 rfl (Nat.le_of_ble_eq_true rfl) dL_law_438 ⟨zRmC hkc hn6 hL (by decide), zRmS hks hn6 hL (by decide)⟩ (fun r_19 u_20 H locs hr_19 hP hD hS => ?_)
  obtain ⟨q_21, q_22, q_23⟩ := u_20
  try dsimp only at hr_19
  obtain ⟨hpq_22, hpq_23, hsr_19_0, hsr_19_1, hr_19⟩ := hr_19
  have h9R := zRe (ws' := ([(x0, .inr (7, [.ref xs, .ref j0, .ref k0, .ref w0, .ref rd, .ref mv, .ref xr, .int im, .int lf])), (xr, .inl (cI, 8, .inl q_11)), (xs, .inl (cS, 8, .inr (.inr (.inr (.inr (zS sh)))))), (j0, .inr (0, [.ref z0, .ref jp, .ref jc, .int cn, .int de, .int tr, .int se, .int hu, .int sd])), (jp, .inl (cP, 8, .inr (.inr (.inr (.inr fp))))), (zMO m0 npu nte nat_ nde nto nse nhu nga nsd nfa mrf mki mpa mta mla msl mco mhe mso msi msh mce mca mwo mnu mte nba npl nen nnu nwr mwa mke mma mth mtr nra nik), (mrf, .inl (cI, 8, .inl q_21)), (mhe, .inl (cI, 8, .inl q_22)), (msh, .inl (cI, 8, .inl q_23))] ++ ((zShW cJ sh el he_12 si_13 fe_14 ++ So) ++ po.1.map zPo))) hP hD rfl
  clear hP hD
  obtain ⟨hP, hD⟩ := h9R
  obtain ⟨hA, hR8⟩ := zRel_show hR hj_7 pj_7 hcn (by rw [← ehe_j_7]; exact hsr_8_0) hsr_19_1
  have hR9 : zRel he_12 si_13 fe_14 q_22 gso gsi q_23 gce := by rw [ehe_12, esi_13, efe_14, esi_j_7, zUpS, zUpS]; exact hR8
  refine lv_pop hx hb dL_law_441 rfl ?_
  refine lv_goto (tgt := 1370) hx hb dL_law_442 (by decide) ?_
  exact hnx im lf cn de tr se hu sd npu nte nat_ nde nto nse nhu nga nsd nfa nba npl nen nnu nwr nra nik q_11 q_21 q_22 q_23 he_12 si_13 kf af tf fp fe_14 b_im b_lf b_cn b_de b_se b_hu b_npu b_nte b_nat_ b_nde b_nhu b_nra b_nik hpq_22 hpq_23 hp_he_12 hp_si_13 hjp hjwp hsr_19_0 hik hR9 hcn hsz him hlf hkq hT hTk hKI hKk hNu hNk _ _ (zRmN hkc) (zRmM hks) H locs (hP.part [0, 2, 3, 4, 1, 5, 6, 7, 8] rfl) (hD.part [0, 2, 3, 4, 1, 5, 6, 7, 8] (by decide +kernel) rfl) hS ls (lv_sub hl [0, 1, 2, 3] rfl)
set_option maxHeartbeats 16000000 in
set_option maxRecDepth 200000 in
theorem law_core_5 {p : Program} {l : Launch} {e : Env} {s : State} {m : MethodId} {below : List Frame} {meth : Method} {c : Code} {D : va_G} {cI cJ cZ cP cS : ClassId} {b L : Nat} {xs_ : Nat → Int32} (x0 xs j0 k0 w0 rd mv xr wc m0 mrf mki mpa mta mla msl mco mhe mso msi msh mce mca mwo mnu mte mwa mke mma mth mtr : Nat) (sh el : Nat → Nat) {So : va_W} (n nkc nks : Nat) (i : Int32) (po : zPool) (im lf cn de tr se hu sd sz at_ gp kcn kde ktr kse khu ksd ksz kat kgp npu nte nat_ nde nto nse nhu nga nsd nfa nba npl nen nnu nwr nra nik : Int32) (fzl fzs fjc fkzl fkzs fkc gki gpa gta gla gsl gco ghe gso gsi gsh gke he si kf af tf kkf kaf ktf : Nat → Int32) (gce : Nat → Int64) (fe : Nat → Nat → Int64) (C0 : lw_At p s m meth c b L xs_) (hK : va_K D vwCl (zKT cI cJ cZ cP cS) s) (hN : zN s) (hz1 : zSt (fun q : Nat => s.heap.size ≤ q) s s.heap) (hL : L ≤ 3072) (b_im : 0 ≤ im.toInt ∧ im.toInt ≤ 1) (b_lf : (-1) ≤ lf.toInt ∧ lf.toInt ≤ 160) (b_npu : 0 ≤ npu.toInt ∧ npu.toInt ≤ 8) (b_nte : 4 ≤ nte.toInt ∧ nte.toInt ≤ 40) (b_nat_ : 0 ≤ nat_.toInt ∧ nat_.toInt ≤ 40) (b_nde : 0 ≤ nde.toInt ∧ nde.toInt ≤ 24) (b_nhu : 0 ≤ nhu.toInt ∧ nhu.toInt ≤ 9) (b_nra : 0 ≤ nra.toInt ∧ nra.toInt ≤ 2000) (b_nik : 0 ≤ nik.toInt ∧ nik.toInt ≤ 1) (hp_ghe : zRg ghe (0) 2) (hp_gso : zRg gso (0) 3) (hp_gsh : zRg gsh (-1) 7) (hp_he : zRg he (-1) 103) (hp_si : zRg si (0) 160) (hHS : zHS ghe gsh) (hik : (nik.toInt = 1 → zKp gke)) (hR : zRel he si fe ghe gso gsi gsh gce) (hcn : cn.toInt = npu.toInt) (hsz : sz.toInt = nte.toInt) (him : im.toInt = nik.toInt) (hlf : lf.toInt = nfa.toInt) (hkq : (nik.toInt = 1 → kcn.toInt = (gke 107).toInt ∧ ksz.toInt = (gke 108).toInt)) (hT : zTt fzl fzs gla gsl gp nga) (hTk : (nik.toInt = 1 → zTk_ fkzl fkzs gke kgp)) (hKI : zTp kf af tf gki gpa gta hu nhu) (hKk : (nik.toInt = 1 → zTq kkf kaf ktf gke khu)) (hNu : zNu de at_ se tr sd fjc nde nat_ nse nto nsd gco) (hNk : (nik.toInt = 1 → zNk kde kat kse ktr ksd fkc gke)) (hz2 : zStr po (fun q : Nat => s.heap.size ≤ q) s s.heap) (hpr : ∀ z ∈ po.1, zPr z.2.1 z.2.2.1 z.2.2.2) (hkc : nkc ≤ 100 + 40 * n) (hks : nks ≤ 10000 + 120 * n) (hi6 : i.toInt = 6 * (n : Int)) (hn6 : 6 * (n : Int) + 6 ≤ (L : Int)) (H : Heap) (locs : List Loc) (hP : va_P D vwCl ([(x0, .inr (7, [.ref xs, .ref j0, .ref k0, .ref w0, .ref rd, .ref mv, .ref xr, .int im, .int lf])), (xs, .inl (cS, 8, .inr (.inr (.inr (.inr (zS sh)))))), (zMO m0 npu nte nat_ nde nto nse nhu nga nsd nfa mrf mki mpa mta mla msl mco mhe mso msi msh mce mca mwo mnu mte nba npl nen nnu nwr mwa mke mma mth mtr nra nik), (mhe, .inl (cI, 8, .inl ghe)), (mso, .inl (cI, 8, .inl gso)), (msh, .inl (cI, 8, .inl gsh))] ++ ((zShW cJ sh el he si fe ++ So) ++ po.1.map zPo)) H) (hD : va_D (fun q : Nat => s.heap.size ≤ q) ([(x0, .inr (7, [.ref xs, .ref j0, .ref k0, .ref w0, .ref rd, .ref mv, .ref xr, .int im, .int lf])), (xs, .inl (cS, 8, .inr (.inr (.inr (.inr (zS sh)))))), (zMO m0 npu nte nat_ nde nto nse nhu nga nsd nfa mrf mki mpa mta mla msl mco mhe mso msi msh mce mca mwo mnu mte nba npl nen nnu nwr mwa mke mma mth mtr nra nik), (mhe, .inl (cI, 8, .inl ghe)), (mso, .inl (cI, 8, .inl gso)), (msh, .inl (cI, 8, .inl gsh))] ++ ((zShW cJ sh el he si fe ++ So) ++ po.1.map zPo))) (hS : va_S (fun q : Nat => s.heap.size ≤ q) s.heap H locs) (ls : Array Slot) (hl : lv_has ls 4 [(3, .int i), (2, .ref m0), (1, .ref x0), (0, .ref b)]) (hnx : ∀ (im lf npu nte nat_ nde nto nse nhu nga nsd nfa nba npl nen nnu nwr nra nik : Int32) (ghe gso gsh he si : Nat → Int32) (fe : Nat → Nat → Int64) (b_im : 0 ≤ im.toInt ∧ im.toInt ≤ 1) (b_lf : (-1) ≤ lf.toInt ∧ lf.toInt ≤ 160) (b_npu : 0 ≤ npu.toInt ∧ npu.toInt ≤ 8) (b_nte : 4 ≤ nte.toInt ∧ nte.toInt ≤ 40) (b_nat_ : 0 ≤ nat_.toInt ∧ nat_.toInt ≤ 40) (b_nde : 0 ≤ nde.toInt ∧ nde.toInt ≤ 24) (b_nhu : 0 ≤ nhu.toInt ∧ nhu.toInt ≤ 9) (b_nra : 0 ≤ nra.toInt ∧ nra.toInt ≤ 2000) (b_nik : 0 ≤ nik.toInt ∧ nik.toInt ≤ 1) (hp_ghe : zRg ghe (0) 2) (hp_gso : zRg gso (0) 3) (hp_gsh : zRg gsh (-1) 7) (hp_he : zRg he (-1) 103) (hp_si : zRg si (0) 160) (hHS : zHS ghe gsh) (hik : (nik.toInt = 1 → zKp gke)) (hR : zRel he si fe ghe gso gsi gsh gce) (hcn : cn.toInt = npu.toInt) (hsz : sz.toInt = nte.toInt) (him : im.toInt = nik.toInt) (hlf : lf.toInt = nfa.toInt) (hkq : (nik.toInt = 1 → kcn.toInt = (gke 107).toInt ∧ ksz.toInt = (gke 108).toInt)) (hT : zTt fzl fzs gla gsl gp nga) (hTk : (nik.toInt = 1 → zTk_ fkzl fkzs gke kgp)) (hKI : zTp kf af tf gki gpa gta hu nhu) (hKk : (nik.toInt = 1 → zTq kkf kaf ktf gke khu)) (hNu : zNu de at_ se tr sd fjc nde nat_ nse nto nsd gco) (hNk : (nik.toInt = 1 → zNk kde kat kse ktr ksd fkc gke)) (nkc nks : Nat) (hkc : nkc ≤ 100 + 40 * (n + 1)) (hks : nks ≤ 10000 + 120 * (n + 1)) (H : Heap) (locs : List Loc) (hP : va_P D vwCl ([(x0, .inr (7, [.ref xs, .ref j0, .ref k0, .ref w0, .ref rd, .ref mv, .ref xr, .int im, .int lf])), (xs, .inl (cS, 8, .inr (.inr (.inr (.inr (zS sh)))))), (zMO m0 npu nte nat_ nde nto nse nhu nga nsd nfa mrf mki mpa mta mla msl mco mhe mso msi msh mce mca mwo mnu mte nba npl nen nnu nwr mwa mke mma mth mtr nra nik), (mhe, .inl (cI, 8, .inl ghe)), (mso, .inl (cI, 8, .inl gso)), (msh, .inl (cI, 8, .inl gsh))] ++ ((zShW cJ sh el he si fe ++ So) ++ po.1.map zPo)) H) (hD : va_D (fun q : Nat => s.heap.size ≤ q) ([(x0, .inr (7, [.ref xs, .ref j0, .ref k0, .ref w0, .ref rd, .ref mv, .ref xr, .int im, .int lf])), (xs, .inl (cS, 8, .inr (.inr (.inr (.inr (zS sh)))))), (zMO m0 npu nte nat_ nde nto nse nhu nga nsd nfa mrf mki mpa mta mla msl mco mhe mso msi msh mce mca mwo mnu mte nba npl nen nnu nwr mwa mke mma mth mtr nra nik), (mhe, .inl (cI, 8, .inl ghe)), (mso, .inl (cI, 8, .inl gso)), (msh, .inl (cI, 8, .inl gsh))] ++ ((zShW cJ sh el he si fe ++ So) ++ po.1.map zPo))) (hS : va_S (fun q : Nat => s.heap.size ≤ q) s.heap H locs) (ls : Array Slot) (hl : lv_has ls 4 [(3, .int i), (2, .ref m0), (1, .ref x0), (0, .ref b)]), W p l e room_1 s m #[Value.ref b] below meth c H locs nkc nks (lw_Z below #[Value.ref b] s) (F0 m 1370 ls [])) : W p l e room_1 s m #[Value.ref b] below meth c H locs nkc nks (lw_Z below #[Value.ref b] s) (F0 m 445 ls []) := by
  obtain ⟨hx, hb, hr, hml, hown0, hts, hX, hbl, hlocks, hgv⟩ := id C0
  have hown : s.vm.findClass RL = some m.cls := hown0
  have hA : ∀ q : Nat, s.heap.size ≤ q → (fun q : Nat => s.heap.size ≤ q) q := fun _ h => h
  have hbA : ¬ (fun q : Nat => s.heap.size ≤ q) b := Nat.not_le.mpr hbl
  obtain ⟨hNa, hNb, hNc, -⟩ := id hNu
  refine lv_aload_n hx hb dL_law_445 rfl (lv_at hl 2 rfl) ?_
  refine lv_aload_n hx hb dL_law_446 rfl (lv_at hl 3 rfl) ?_
  refine lv_iload_n hx hb dL_law_447 rfl (lv_at hl 0 rfl) ?_
  refine lv_iconst (v := 1) hx hb dL_law_448 (by decide) ?_
  refine lv_iadd hx hb dL_law_449 ?_
  refine lv_topi (fun x_1 ex_1 => ?_)
  have qx_1 : x_1.toInt = i.toInt + 1 := zLadd ex_1 (by decide) (by decide) (by decide) hi6 hn6 hL
  refine va_sld hx hb hX hbl hbA hS (zLin qx_1 (by decide) (by decide) hi6 hn6) dL_law_450 ?_
  refine lv_topi (fun a_3 ea_3 => ?_)
  obtain ⟨j_4, hj_4, qj_4, pj_4⟩ := zjq2 sh (a_3 : Int32)
  replace hP := zP_perm hP (zSo_pout hj_4 _ _ _)
  replace hD := zD_perm hD (zSo_pout hj_4 _ _ _)
  have bhe_j_4 := hp_he j_4
  have bsi_j_4 := hp_si j_4
  obtain ⟨he_j_4, ehe_j_4⟩ : ∃ z : Int32, z = he j_4 := ⟨_, rfl⟩
  obtain ⟨si_j_4, esi_j_4⟩ : ∃ z : Int32, z = si j_4 := ⟨_, rfl⟩
  rw [← ehe_j_4] at bhe_j_4
  rw [← esi_j_4] at bsi_j_4
  rw [← ehe_j_4, ← esi_j_4] at hP hD
  skip
  refine zt_V (As := [.int a_3]) (rest := []) (ws := [(x0, .inr (7, [.ref xs, .ref j0, .ref k0, .ref w0, .ref rd, .ref mv, .ref xr, .int im, .int lf])), (xs, .inl (cS, 8, .inr (.inr (.inr (.inr (zS sh)))))), (zMO m0 npu nte nat_ nde nto nse nhu nga nsd nfa mrf mki mpa mta mla msl mco mhe mso msi msh mce mca mwo mnu mte nba npl nen nnu nwr mwa mke mma mth mtr nra nik), (mhe, .inl (cI, 8, .inl ghe)), (mso, .inl (cI, 8, .inl gso)), (msh, .inl (cI, 8, .inl gsh)), ((sh j_4), .inr (4, [.ref (el j_4), .int he_j_4, .int si_j_4])), ((el j_4), .inl (cJ, 160, .inr (.inl (fe j_4))))]) (wr := [(zMO m0 npu nte nat_ nde nto nse nhu nga nsd nfa mrf mki mpa mta mla msl mco mhe mso msi msh mce mca mwo mnu mte nba npl nen nnu nwr mwa mke mma mth mtr nra nik), (mhe, .inl (cI, 8, .inl ghe)), (mso, .inl (cI, 8, .inl gso)), (msh, .inl (cI, 8, .inl gsh)), ((el j_4), .inl (cJ, 160, .inr (.inl (fe j_4))))]) ⟨hx, hb, hml, hown, hts⟩ (c_F_X_holds l D cI cJ cZ cP cS po x0 xs j0 k0 w0 rd mv xr (im) (lf) ((fun _ => 0)) ((zS sh)) (a_3) ((sh j_4)) ((el j_4)) (he_j_4) (si_j_4) b_im.1 b_im.2 b_lf.1 b_lf.2 bhe_j_4.1 bhe_j_4.2 bsi_j_4.1 bsi_j_4.2 qj_4 H.size) (cwV 1 hts gq_40 rfl rfl rfl ⟨rfl, dh_X7_holds⟩ ⟨Nat.le_of_ble_eq_true rfl, Nat.le_of_ble_eq_true rfl⟩) hK hN hP hD hS hA [0, 1, 6] [2, 3, 4, 5, 7] rfl rfl (by decide) (by decide) (by decide) (zE_law (isC := [0, 1, 6]) hz1 hz2 hP hD hS hA rfl hpr) (va_recv (q := (RX7, TX7, 9)) hK hP (ci := 7) (q0 := 0) rfl rfl) rfl hl.1 rfl (Nat.le_of_ble_eq_true rfl) dL_law_451 ⟨zRmC hkc hn6 hL (by decide), zRmS hks hn6 hL (by decide)⟩ (fun r_5 u_6 H locs hr_5 hP hD hS => ?_)
  obtain ⟨hsr_5_0, hr_5⟩ := hr_5
  have h9R := zRe (ws' := ([(zMO m0 npu nte nat_ nde nto nse nhu nga nsd nfa mrf mki mpa mta mla msl mco mhe mso msi msh mce mca mwo mnu mte nba npl nen nnu nwr mwa mke mma mth mtr nra nik), (mhe, .inl (cI, 8, .inl ghe)), (mso, .inl (cI, 8, .inl gso)), (msh, .inl (cI, 8, .inl gsh)), ((el j_4), .inl (cJ, 160, .inr (.inl (fe j_4)))), (x0, .inr (7, [.ref xs, .ref j0, .ref k0, .ref w0, .ref rd, .ref mv, .ref xr, .int im, .int lf])), (xs, .inl (cS, 8, .inr (.inr (.inr (.inr (zS sh)))))), ((sh j_4), .inr (4, [.ref (el j_4), .int he_j_4, .int si_j_4]))] ++ ((zShR cJ sh el he si fe j_4 ++ So) ++ po.1.map zPo))) hP hD rfl
  clear hP hD
  obtain ⟨hP, hD⟩ := h9R
  replace hP := zP_perm (show va_P D vwCl (([(zMO m0 npu nte nat_ nde nto nse nhu nga nsd nfa mrf mki mpa mta mla msl mco mhe mso msi msh mce mca mwo mnu mte nba npl nen nnu nwr mwa mke mma mth mtr nra nik), (mhe, .inl (cI, 8, .inl ghe)), (mso, .inl (cI, 8, .inl gso)), (msh, .inl (cI, 8, .inl gsh)), (x0, .inr (7, [.ref xs, .ref j0, .ref k0, .ref w0, .ref rd, .ref mv, .ref xr, .int im, .int lf])), (xs, .inl (cS, 8, .inr (.inr (.inr (.inr (zS sh))))))] ++ [((sh j_4), .inr (4, [.ref (el j_4), .int he_j_4, .int si_j_4])), ((el j_4), .inl (cJ, 160, .inr (.inl (fe j_4))))]) ++ ((zShR cJ sh el he si fe j_4 ++ So) ++ po.1.map zPo)) H from hP.part [0, 1, 2, 3, 5, 6, 7, 4] rfl) (zSo_pin hj_4 _ _ _ (he_j_4 : Int32) (si_j_4 : Int32) (fe j_4))
  replace hD := zD_perm (show va_D (fun q : Nat => s.heap.size ≤ q) (([(zMO m0 npu nte nat_ nde nto nse nhu nga nsd nfa mrf mki mpa mta mla msl mco mhe mso msi msh mce mca mwo mnu mte nba npl nen nnu nwr mwa mke mma mth mtr nra nik), (mhe, .inl (cI, 8, .inl ghe)), (mso, .inl (cI, 8, .inl gso)), (msh, .inl (cI, 8, .inl gsh)), (x0, .inr (7, [.ref xs, .ref j0, .ref k0, .ref w0, .ref rd, .ref mv, .ref xr, .int im, .int lf])), (xs, .inl (cS, 8, .inr (.inr (.inr (.inr (zS sh))))))] ++ [((sh j_4), .inr (4, [.ref (el j_4), .int he_j_4, .int si_j_4])), ((el j_4), .inl (cJ, 160, .inr (.inl (fe j_4))))]) ++ ((zShR cJ sh el he si fe j_4 ++ So) ++ po.1.map zPo)) from hD.part [0, 1, 2, 3, 5, 6, 7, 4] (by decide +kernel) rfl) (zSo_pin hj_4 _ _ _ (he_j_4 : Int32) (si_j_4 : Int32) (fe j_4))
  obtain ⟨he_7, ehe_7⟩ : ∃ z : Nat → Int32, z = va_up he j_4 (he_j_4 : Int32) := ⟨_, rfl⟩
  rw [← ehe_7] at hP hD
  have hp_he_7 : zRg he_7 (-1) 103 := by rw [ehe_7]; exact zRg_va hp_he bhe_j_4
  obtain ⟨si_8, esi_8⟩ : ∃ z : Nat → Int32, z = va_up si j_4 (si_j_4 : Int32) := ⟨_, rfl⟩
  rw [← esi_8] at hP hD
  have hp_si_8 : zRg si_8 (0) 160 := by rw [esi_8]; exact zRg_va hp_si bsi_j_4
  obtain ⟨fe_9, efe_9⟩ : ∃ z : Nat → Nat → Int64, z = va_up fe j_4 (fe j_4) := ⟨_, rfl⟩
  rw [← efe_9] at hP hD
  have h9R := zRe (ws' := ([(zMO m0 npu nte nat_ nde nto nse nhu nga nsd nfa mrf mki mpa mta mla msl mco mhe mso msi msh mce mca mwo mnu mte nba npl nen nnu nwr mwa mke mma mth mtr nra nik), (mhe, .inl (cI, 8, .inl ghe)), (mso, .inl (cI, 8, .inl gso)), (msh, .inl (cI, 8, .inl gsh)), (x0, .inr (7, [.ref xs, .ref j0, .ref k0, .ref w0, .ref rd, .ref mv, .ref xr, .int im, .int lf])), (xs, .inl (cS, 8, .inr (.inr (.inr (.inr (zS sh))))))] ++ ((zShW cJ sh el he_7 si_8 fe_9 ++ So) ++ po.1.map zPo))) hP hD rfl
  clear hP hD
  obtain ⟨hP, hD⟩ := h9R
  refine lv_pop hx hb dL_law_454 rfl ?_
  refine lv_aload_n hx hb dL_law_455 rfl (lv_at hl 1 rfl) ?_
  refine lv_aload_n hx hb dL_law_456 rfl (lv_at hl 3 rfl) ?_
  refine lv_iload_n hx hb dL_law_457 rfl (lv_at hl 0 rfl) ?_
  refine lv_iconst (v := 1) hx hb dL_law_458 (by decide) ?_
  refine lv_iadd hx hb dL_law_459 ?_
  refine lv_topi (fun y_10 ey_10 => ?_)
  obtain rfl : x_1 = y_10 := ex_1.trans ey_10.symm
  refine va_sld hx hb hX hbl hbA hS (zLin qx_1 (by decide) (by decide) hi6 hn6) dL_law_460 ?_
  refine lv_topi (fun y_11 ey_11 => ?_)
  obtain rfl : a_3 = y_11 := ea_3.trans ey_11.symm
  refine zc_V (As := [.int a_3]) (rest := []) ⟨hx, hb, hml, hown, hts⟩ (c_F_M_holds l D cI cJ cZ cP cS po m0 mrf mki mpa mta mla msl mco mhe mso msi msh mce mca mwo mnu mte mwa mke mma mth mtr (npu) (nte) (nat_) (nde) (nto) (nse) (nhu) (nga) (nsd) (nfa) (nba) (npl) (nen) (nnu) (nwr) (nra) (nik) ghe gso gsh (a_3) b_npu.1 b_npu.2 b_nte.1 b_nte.2 b_nat_.1 b_nat_.2 b_nde.1 b_nde.2 b_nhu.1 b_nhu.2 b_nra.1 b_nra.2 b_nik.1 b_nik.2 hp_ghe hp_gso hp_gsh) (cwV 1 hts gq_44 rfl rfl rfl ⟨rfl, dh_X8_holds⟩ ⟨Nat.le_of_ble_eq_true rfl, Nat.le_of_ble_eq_true rfl⟩) hK hN (zE_law (isC := []) (wc := []) hz1 hz2 hP hD hS hA rfl hpr) hP (hP.sub [0, 1, 2, 3] rfl) (va_recv (q := (RX8, TX8, 38)) hK hP (ci := 8) (q0 := 0) rfl rfl) rfl hl.1 rfl (Nat.le_of_ble_eq_true rfl) dL_law_461 ⟨zRmC hkc hn6 hL (by decide), zRmS hks hn6 hL (by decide)⟩ (fun r_12 hr_12 => ?_)
  have hsr_12_0 := hr_12
  have hR9 : zRel he_7 si_8 fe_9 ghe gso gsi gsh gce := by rw [ehe_7, esi_8, efe_9, ehe_j_4, esi_j_4, zUpS, zUpS, zUpS]; exact hR
  have hE9 := zRel_hoR hR hHS hp_ghe hj_4 pj_4
  have hA : r_5.toInt = r_12.toInt := by (have z1 := hsr_5_0; have z2 := hsr_12_0; rw [ehe_j_4] at z1; rcases z1 with z1 | z1 <;> rcases z2 with z2 | z2 <;> first | omega | (have z3 := hE9 z1.1; omega))
  refine lv_pop hx hb dL_law_464 rfl ?_
  refine lv_goto (tgt := 1370) hx hb dL_law_465 (by decide) ?_
  exact hnx im lf npu nte nat_ nde nto nse nhu nga nsd nfa nba npl nen nnu nwr nra nik ghe gso gsh he_7 si_8 fe_9 b_im b_lf b_npu b_nte b_nat_ b_nde b_nhu b_nra b_nik hp_ghe hp_gso hp_gsh hp_he_7 hp_si_8 hHS hik hR9 hcn hsz him hlf hkq hT hTk hKI hKk hNu hNk _ _ (zRmN hkc) (zRmM hks) H locs (hP.part [4, 5, 0, 1, 2, 3] rfl) (hD.part [4, 5, 0, 1, 2, 3] (by decide +kernel) rfl) hS ls (lv_sub hl [0, 1, 2, 3] rfl)
set_option maxHeartbeats 16000000 in
set_option maxRecDepth 200000 in
theorem law_core_6 {p : Program} {l : Launch} {e : Env} {s : State} {m : MethodId} {below : List Frame} {meth : Method} {c : Code} {D : va_G} {cI cJ cZ cP cS : ClassId} {b L : Nat} {xs_ : Nat → Int32} (x0 xs j0 k0 w0 rd mv xr z0 jp jc m0 mrf mki mpa mta mla msl mco mhe mso msi msh mce mca mwo mnu mte mwa mke mma mth mtr : Nat) (sh el : Nat → Nat) {So : va_W} (n nkc nks : Nat) (i : Int32) (po : zPool) (im lf cn de tr se hu sd sz at_ gp kcn kde ktr kse khu ksd ksz kat kgp npu nte nat_ nde nto nse nhu nga nsd nfa nba npl nen nnu nwr nra nik : Int32) (fzl fzs fjc fkzl fkzs fkc fxr grf gki gpa gta gla gsl gco ghe gso gsi gsh gke he si kf af tf kkf kaf ktf : Nat → Int32) (gce : Nat → Int64) (fp : Nat → Option Nat) (fe : Nat → Nat → Int64) (C0 : lw_At p s m meth c b L xs_) (hK : va_K D vwCl (zKT cI cJ cZ cP cS) s) (hN : zN s) (hz1 : zSt (fun q : Nat => s.heap.size ≤ q) s s.heap) (hL : L ≤ 3072) (b_im : 0 ≤ im.toInt ∧ im.toInt ≤ 1) (b_lf : (-1) ≤ lf.toInt ∧ lf.toInt ≤ 160) (b_cn : 0 ≤ cn.toInt ∧ cn.toInt ≤ 8) (b_de : 0 ≤ de.toInt ∧ de.toInt ≤ 24) (b_se : 0 ≤ se.toInt ∧ se.toInt ≤ 300) (b_hu : 0 ≤ hu.toInt ∧ hu.toInt ≤ 9) (b_npu : 0 ≤ npu.toInt ∧ npu.toInt ≤ 8) (b_nte : 4 ≤ nte.toInt ∧ nte.toInt ≤ 40) (b_nat_ : 0 ≤ nat_.toInt ∧ nat_.toInt ≤ 40) (b_nde : 0 ≤ nde.toInt ∧ nde.toInt ≤ 24) (b_nhu : 0 ≤ nhu.toInt ∧ nhu.toInt ≤ 9) (b_nra : 0 ≤ nra.toInt ∧ nra.toInt ≤ 2000) (b_nik : 0 ≤ nik.toInt ∧ nik.toInt ≤ 1) (hp_gki : zRg gki (0) 6) (hp_gpa : zRg gpa (0) 9) (hp_gta : zRg gta (0) 60) (hp_ghe : zRg ghe (0) 2) (hp_gsh : zRg gsh (-1) 7) (hp_he : zRg he (-1) 103) (hp_si : zRg si (0) 160) (hjp : zJP po fp cn kf af tf) (hjwp : zWP po fp) (hHS : zHS ghe gsh) (hik : (nik.toInt = 1 → zKp gke)) (hR : zRel he si fe ghe gso gsi gsh gce) (hcn : cn.toInt = npu.toInt) (hsz : sz.toInt = nte.toInt) (him : im.toInt = nik.toInt) (hlf : lf.toInt = nfa.toInt) (hkq : (nik.toInt = 1 → kcn.toInt = (gke 107).toInt ∧ ksz.toInt = (gke 108).toInt)) (hT : zTt fzl fzs gla gsl gp nga) (hTk : (nik.toInt = 1 → zTk_ fkzl fkzs gke kgp)) (hKI : zTp kf af tf gki gpa gta hu nhu) (hKk : (nik.toInt = 1 → zTq kkf kaf ktf gke khu)) (hNu : zNu de at_ se tr sd fjc nde nat_ nse nto nsd gco) (hNk : (nik.toInt = 1 → zNk kde kat kse ktr ksd fkc gke)) (hz2 : zStr po (fun q : Nat => s.heap.size ≤ q) s s.heap) (hpr : ∀ z ∈ po.1, zPr z.2.1 z.2.2.1 z.2.2.2) (hkc : nkc ≤ 100 + 40 * n) (hks : nks ≤ 10000 + 120 * n) (hi6 : i.toInt = 6 * (n : Int)) (hn6 : 6 * (n : Int) + 6 ≤ (L : Int)) (H : Heap) (locs : List Loc) (hP : va_P D vwCl ([(x0, .inr (7, [.ref xs, .ref j0, .ref k0, .ref w0, .ref rd, .ref mv, .ref xr, .int im, .int lf])), (xs, .inl (cS, 8, .inr (.inr (.inr (.inr (zS sh)))))), (j0, .inr (0, [.ref z0, .ref jp, .ref jc, .int cn, .int de, .int tr, .int se, .int hu, .int sd])), (jp, .inl (cP, 8, .inr (.inr (.inr (.inr fp))))), (xr, .inl (cI, 8, .inl fxr)), (zMO m0 npu nte nat_ nde nto nse nhu nga nsd nfa mrf mki mpa mta mla msl mco mhe mso msi msh mce mca mwo mnu mte nba npl nen nnu nwr mwa mke mma mth mtr nra nik), (mrf, .inl (cI, 8, .inl grf)), (mki, .inl (cI, 8, .inl gki)), (mpa, .inl (cI, 8, .inl gpa)), (mta, .inl (cI, 8, .inl gta)), (mhe, .inl (cI, 8, .inl ghe)), (msh, .inl (cI, 8, .inl gsh))] ++ ((zShW cJ sh el he si fe ++ So) ++ po.1.map zPo)) H) (hD : va_D (fun q : Nat => s.heap.size ≤ q) ([(x0, .inr (7, [.ref xs, .ref j0, .ref k0, .ref w0, .ref rd, .ref mv, .ref xr, .int im, .int lf])), (xs, .inl (cS, 8, .inr (.inr (.inr (.inr (zS sh)))))), (j0, .inr (0, [.ref z0, .ref jp, .ref jc, .int cn, .int de, .int tr, .int se, .int hu, .int sd])), (jp, .inl (cP, 8, .inr (.inr (.inr (.inr fp))))), (xr, .inl (cI, 8, .inl fxr)), (zMO m0 npu nte nat_ nde nto nse nhu nga nsd nfa mrf mki mpa mta mla msl mco mhe mso msi msh mce mca mwo mnu mte nba npl nen nnu nwr mwa mke mma mth mtr nra nik), (mrf, .inl (cI, 8, .inl grf)), (mki, .inl (cI, 8, .inl gki)), (mpa, .inl (cI, 8, .inl gpa)), (mta, .inl (cI, 8, .inl gta)), (mhe, .inl (cI, 8, .inl ghe)), (msh, .inl (cI, 8, .inl gsh))] ++ ((zShW cJ sh el he si fe ++ So) ++ po.1.map zPo))) (hS : va_S (fun q : Nat => s.heap.size ≤ q) s.heap H locs) (ls : Array Slot) (hl : lv_has ls 4 [(3, .int i), (2, .ref m0), (1, .ref x0), (0, .ref b)]) (hnx : ∀ (im lf cn de tr se hu sd npu nte nat_ nde nto nse nhu nga nsd nfa nba npl nen nnu nwr nra nik : Int32) (fxr grf gki gpa gta ghe gsh he si kf af tf : Nat → Int32) (fp : Nat → Option Nat) (fe : Nat → Nat → Int64) (b_im : 0 ≤ im.toInt ∧ im.toInt ≤ 1) (b_lf : (-1) ≤ lf.toInt ∧ lf.toInt ≤ 160) (b_cn : 0 ≤ cn.toInt ∧ cn.toInt ≤ 8) (b_de : 0 ≤ de.toInt ∧ de.toInt ≤ 24) (b_se : 0 ≤ se.toInt ∧ se.toInt ≤ 300) (b_hu : 0 ≤ hu.toInt ∧ hu.toInt ≤ 9) (b_npu : 0 ≤ npu.toInt ∧ npu.toInt ≤ 8) (b_nte : 4 ≤ nte.toInt ∧ nte.toInt ≤ 40) (b_nat_ : 0 ≤ nat_.toInt ∧ nat_.toInt ≤ 40) (b_nde : 0 ≤ nde.toInt ∧ nde.toInt ≤ 24) (b_nhu : 0 ≤ nhu.toInt ∧ nhu.toInt ≤ 9) (b_nra : 0 ≤ nra.toInt ∧ nra.toInt ≤ 2000) (b_nik : 0 ≤ nik.toInt ∧ nik.toInt ≤ 1) (hp_gki : zRg gki (0) 6) (hp_gpa : zRg gpa (0) 9) (hp_gta : zRg gta (0) 60) (hp_ghe : zRg ghe (0) 2) (hp_gsh : zRg gsh (-1) 7) (hp_he : zRg he (-1) 103) (hp_si : zRg si (0) 160) (hjp : zJP po fp cn kf af tf) (hjwp : zWP po fp) (hHS : zHS ghe gsh) (hik : (nik.toInt = 1 → zKp gke)) (hR : zRel he si fe ghe gso gsi gsh gce) (hcn : cn.toInt = npu.toInt) (hsz : sz.toInt = nte.toInt) (him : im.toInt = nik.toInt) (hlf : lf.toInt = nfa.toInt) (hkq : (nik.toInt = 1 → kcn.toInt = (gke 107).toInt ∧ ksz.toInt = (gke 108).toInt)) (hT : zTt fzl fzs gla gsl gp nga) (hTk : (nik.toInt = 1 → zTk_ fkzl fkzs gke kgp)) (hKI : zTp kf af tf gki gpa gta hu nhu) (hKk : (nik.toInt = 1 → zTq kkf kaf ktf gke khu)) (hNu : zNu de at_ se tr sd fjc nde nat_ nse nto nsd gco) (hNk : (nik.toInt = 1 → zNk kde kat kse ktr ksd fkc gke)) (nkc nks : Nat) (hkc : nkc ≤ 100 + 40 * (n + 1)) (hks : nks ≤ 10000 + 120 * (n + 1)) (H : Heap) (locs : List Loc) (hP : va_P D vwCl ([(x0, .inr (7, [.ref xs, .ref j0, .ref k0, .ref w0, .ref rd, .ref mv, .ref xr, .int im, .int lf])), (xs, .inl (cS, 8, .inr (.inr (.inr (.inr (zS sh)))))), (j0, .inr (0, [.ref z0, .ref jp, .ref jc, .int cn, .int de, .int tr, .int se, .int hu, .int sd])), (jp, .inl (cP, 8, .inr (.inr (.inr (.inr fp))))), (xr, .inl (cI, 8, .inl fxr)), (zMO m0 npu nte nat_ nde nto nse nhu nga nsd nfa mrf mki mpa mta mla msl mco mhe mso msi msh mce mca mwo mnu mte nba npl nen nnu nwr mwa mke mma mth mtr nra nik), (mrf, .inl (cI, 8, .inl grf)), (mki, .inl (cI, 8, .inl gki)), (mpa, .inl (cI, 8, .inl gpa)), (mta, .inl (cI, 8, .inl gta)), (mhe, .inl (cI, 8, .inl ghe)), (msh, .inl (cI, 8, .inl gsh))] ++ ((zShW cJ sh el he si fe ++ So) ++ po.1.map zPo)) H) (hD : va_D (fun q : Nat => s.heap.size ≤ q) ([(x0, .inr (7, [.ref xs, .ref j0, .ref k0, .ref w0, .ref rd, .ref mv, .ref xr, .int im, .int lf])), (xs, .inl (cS, 8, .inr (.inr (.inr (.inr (zS sh)))))), (j0, .inr (0, [.ref z0, .ref jp, .ref jc, .int cn, .int de, .int tr, .int se, .int hu, .int sd])), (jp, .inl (cP, 8, .inr (.inr (.inr (.inr fp))))), (xr, .inl (cI, 8, .inl fxr)), (zMO m0 npu nte nat_ nde nto nse nhu nga nsd nfa mrf mki mpa mta mla msl mco mhe mso msi msh mce mca mwo mnu mte nba npl nen nnu nwr mwa mke mma mth mtr nra nik), (mrf, .inl (cI, 8, .inl grf)), (mki, .inl (cI, 8, .inl gki)), (mpa, .inl (cI, 8, .inl gpa)), (mta, .inl (cI, 8, .inl gta)), (mhe, .inl (cI, 8, .inl ghe)), (msh, .inl (cI, 8, .inl gsh))] ++ ((zShW cJ sh el he si fe ++ So) ++ po.1.map zPo))) (hS : va_S (fun q : Nat => s.heap.size ≤ q) s.heap H locs) (ls : Array Slot) (hl : lv_has ls 4 [(3, .int i), (2, .ref m0), (1, .ref x0), (0, .ref b)]), W p l e room_1 s m #[Value.ref b] below meth c H locs nkc nks (lw_Z below #[Value.ref b] s) (F0 m 1370 ls [])) : W p l e room_1 s m #[Value.ref b] below meth c H locs nkc nks (lw_Z below #[Value.ref b] s) (F0 m 468 ls []) := by
  obtain ⟨hx, hb, hr, hml, hown0, hts, hX, hbl, hlocks, hgv⟩ := id C0
  have hown : s.vm.findClass RL = some m.cls := hown0
  have hA : ∀ q : Nat, s.heap.size ≤ q → (fun q : Nat => s.heap.size ≤ q) q := fun _ h => h
  have hbA : ¬ (fun q : Nat => s.heap.size ≤ q) b := Nat.not_le.mpr hbl
  obtain ⟨hNa, hNb, hNc, -⟩ := id hNu
  refine lv_aload_n hx hb dL_law_468 rfl (lv_at hl 2 rfl) ?_
  refine lv_aload_n hx hb dL_law_469 rfl (lv_at hl 3 rfl) ?_
  refine lv_iload_n hx hb dL_law_470 rfl (lv_at hl 0 rfl) ?_
  refine lv_iconst (v := 1) hx hb dL_law_471 (by decide) ?_
  refine lv_iadd hx hb dL_law_472 ?_
  refine lv_topi (fun x_1 ex_1 => ?_)
  have qx_1 : x_1.toInt = i.toInt + 1 := zLadd ex_1 (by decide) (by decide) (by decide) hi6 hn6 hL
  refine va_sld hx hb hX hbl hbA hS (zLin qx_1 (by decide) (by decide) hi6 hn6) dL_law_473 ?_
  refine lv_topi (fun a_3 ea_3 => ?_)
  refine lv_aload_n hx hb dL_law_474 rfl (lv_at hl 3 rfl) ?_
  refine lv_iload_n hx hb dL_law_475 rfl (lv_at hl 0 rfl) ?_
  refine lv_iconst (v := 2) hx hb dL_law_476 (by decide) ?_
  refine lv_iadd hx hb dL_law_477 ?_
  refine lv_topi (fun x_4 ex_4 => ?_)
  have qx_4 : x_4.toInt = i.toInt + 2 := zLadd ex_4 (by decide) (by decide) (by decide) hi6 hn6 hL
  refine va_sld hx hb hX hbl hbA hS (zLin qx_4 (by decide) (by decide) hi6 hn6) dL_law_478 ?_
  refine lv_topi (fun a_6 ea_6 => ?_)
  obtain ⟨j_7, hj_7, qj_7, pj_7⟩ := zjq2 sh (a_3 : Int32)
  replace hP := zP_perm hP (zSo_pout hj_7 _ _ _)
  replace hD := zD_perm hD (zSo_pout hj_7 _ _ _)
  have bhe_j_7 := hp_he j_7
  have bsi_j_7 := hp_si j_7
  obtain ⟨he_j_7, ehe_j_7⟩ : ∃ z : Int32, z = he j_7 := ⟨_, rfl⟩
  obtain ⟨si_j_7, esi_j_7⟩ : ∃ z : Int32, z = si j_7 := ⟨_, rfl⟩
  rw [← ehe_j_7] at bhe_j_7
  rw [← esi_j_7] at bsi_j_7
  rw [← ehe_j_7, ← esi_j_7] at hP hD
  skip
  refine zt_V (As := [.int a_3, .int a_6]) (rest := []) (ws := [(x0, .inr (7, [.ref xs, .ref j0, .ref k0, .ref w0, .ref rd, .ref mv, .ref xr, .int im, .int lf])), (xs, .inl (cS, 8, .inr (.inr (.inr (.inr (zS sh)))))), (j0, .inr (0, [.ref z0, .ref jp, .ref jc, .int cn, .int de, .int tr, .int se, .int hu, .int sd])), (jp, .inl (cP, 8, .inr (.inr (.inr (.inr fp))))), (xr, .inl (cI, 8, .inl fxr)), (zMO m0 npu nte nat_ nde nto nse nhu nga nsd nfa mrf mki mpa mta mla msl mco mhe mso msi msh mce mca mwo mnu mte nba npl nen nnu nwr mwa mke mma mth mtr nra nik), (mrf, .inl (cI, 8, .inl grf)), (mki, .inl (cI, 8, .inl gki)), (mpa, .inl (cI, 8, .inl gpa)), (mta, .inl (cI, 8, .inl gta)), (mhe, .inl (cI, 8, .inl ghe)), (msh, .inl (cI, 8, .inl gsh)), ((sh j_7), .inr (4, [.ref (el j_7), .int he_j_7, .int si_j_7])), ((el j_7), .inl (cJ, 160, .inr (.inl (fe j_7))))]) (wr := [(zMO m0 npu nte nat_ nde nto nse nhu nga nsd nfa mrf mki mpa mta mla msl mco mhe mso msi msh mce mca mwo mnu mte nba npl nen nnu nwr mwa mke mma mth mtr nra nik), (mrf, .inl (cI, 8, .inl grf)), (mki, .inl (cI, 8, .inl gki)), (mpa, .inl (cI, 8, .inl gpa)), (mta, .inl (cI, 8, .inl gta)), (mhe, .inl (cI, 8, .inl ghe)), (msh, .inl (cI, 8, .inl gsh)), ((el j_7), .inl (cJ, 160, .inr (.inl (fe j_7))))]) ⟨hx, hb, hml, hown, hts⟩ (c_F_X_says l D cI cJ cZ cP cS po x0 xs j0 k0 w0 rd mv xr (im) (lf) fxr ((zS sh)) (a_3) ((sh j_7)) ((el j_7)) (he_j_7) (si_j_7) j0 jp jc z0 0 0 (cn) (de) (tr) (se) (hu) (sd) fp kf af tf (a_6) b_im.1 b_im.2 b_lf.1 b_lf.2 bhe_j_7.1 bhe_j_7.2 bsi_j_7.1 bsi_j_7.2 qj_7 b_cn.1 b_cn.2 b_de.1 b_de.2 b_hu.1 b_hu.2 hjp H.size) (cwV 2 hts gq_45 rfl rfl rfl ⟨rfl, dh_X7_says⟩ ⟨Nat.le_of_ble_eq_true rfl, Nat.le_of_ble_eq_true rfl⟩) hK hN hP hD hS hA [0, 4, 1, 12, 2, 3] [5, 6, 7, 8, 9, 10, 11, 13] rfl rfl (by decide) (by decide) (by decide) (zE_law (isC := [0, 4, 1, 12, 2, 3]) hz1 hz2 hP hD hS hA rfl hpr) (va_recv (q := (RX7, TX7, 9)) hK hP (ci := 7) (q0 := 0) rfl rfl) rfl hl.1 rfl (Nat.le_of_ble_eq_true rfl) dL_law_479 ⟨zRmC hkc hn6 hL (by decide), zRmS hks hn6 hL (by decide)⟩ (fun r_8 u_9 H locs hr_8 hP hD hS => ?_)
  obtain ⟨q_10, rfl⟩ : ∃ z, z = u_9 := ⟨_, rfl⟩
  obtain ⟨hsr_8_0, hr_8⟩ := hr_8
  have h9R := zRe (ws' := ([(zMO m0 npu nte nat_ nde nto nse nhu nga nsd nfa mrf mki mpa mta mla msl mco mhe mso msi msh mce mca mwo mnu mte nba npl nen nnu nwr mwa mke mma mth mtr nra nik), (mrf, .inl (cI, 8, .inl grf)), (mki, .inl (cI, 8, .inl gki)), (mpa, .inl (cI, 8, .inl gpa)), (mta, .inl (cI, 8, .inl gta)), (mhe, .inl (cI, 8, .inl ghe)), (msh, .inl (cI, 8, .inl gsh)), ((el j_7), .inl (cJ, 160, .inr (.inl (fe j_7)))), (x0, .inr (7, [.ref xs, .ref j0, .ref k0, .ref w0, .ref rd, .ref mv, .ref xr, .int im, .int lf])), (xr, .inl (cI, 8, .inl q_10)), (xs, .inl (cS, 8, .inr (.inr (.inr (.inr (zS sh)))))), ((sh j_7), .inr (4, [.ref (el j_7), .int he_j_7, .int si_j_7])), (j0, .inr (0, [.ref z0, .ref jp, .ref jc, .int cn, .int de, .int tr, .int se, .int hu, .int sd])), (jp, .inl (cP, 8, .inr (.inr (.inr (.inr fp)))))] ++ ((zShR cJ sh el he si fe j_7 ++ So) ++ po.1.map zPo))) hP hD rfl
  clear hP hD
  obtain ⟨hP, hD⟩ := h9R
  replace hP := zP_perm (show va_P D vwCl (([(zMO m0 npu nte nat_ nde nto nse nhu nga nsd nfa mrf mki mpa mta mla msl mco mhe mso msi msh mce mca mwo mnu mte nba npl nen nnu nwr mwa mke mma mth mtr nra nik), (mrf, .inl (cI, 8, .inl grf)), (mki, .inl (cI, 8, .inl gki)), (mpa, .inl (cI, 8, .inl gpa)), (mta, .inl (cI, 8, .inl gta)), (mhe, .inl (cI, 8, .inl ghe)), (msh, .inl (cI, 8, .inl gsh)), (x0, .inr (7, [.ref xs, .ref j0, .ref k0, .ref w0, .ref rd, .ref mv, .ref xr, .int im, .int lf])), (xr, .inl (cI, 8, .inl q_10)), (xs, .inl (cS, 8, .inr (.inr (.inr (.inr (zS sh)))))), (j0, .inr (0, [.ref z0, .ref jp, .ref jc, .int cn, .int de, .int tr, .int se, .int hu, .int sd])), (jp, .inl (cP, 8, .inr (.inr (.inr (.inr fp)))))] ++ [((sh j_7), .inr (4, [.ref (el j_7), .int he_j_7, .int si_j_7])), ((el j_7), .inl (cJ, 160, .inr (.inl (fe j_7))))]) ++ ((zShR cJ sh el he si fe j_7 ++ So) ++ po.1.map zPo)) H from hP.part [0, 1, 2, 3, 4, 5, 6, 8, 9, 10, 12, 13, 11, 7] rfl) (zSo_pin hj_7 _ _ _ (he_j_7 : Int32) (si_j_7 : Int32) (fe j_7))
  replace hD := zD_perm (show va_D (fun q : Nat => s.heap.size ≤ q) (([(zMO m0 npu nte nat_ nde nto nse nhu nga nsd nfa mrf mki mpa mta mla msl mco mhe mso msi msh mce mca mwo mnu mte nba npl nen nnu nwr mwa mke mma mth mtr nra nik), (mrf, .inl (cI, 8, .inl grf)), (mki, .inl (cI, 8, .inl gki)), (mpa, .inl (cI, 8, .inl gpa)), (mta, .inl (cI, 8, .inl gta)), (mhe, .inl (cI, 8, .inl ghe)), (msh, .inl (cI, 8, .inl gsh)), (x0, .inr (7, [.ref xs, .ref j0, .ref k0, .ref w0, .ref rd, .ref mv, .ref xr, .int im, .int lf])), (xr, .inl (cI, 8, .inl q_10)), (xs, .inl (cS, 8, .inr (.inr (.inr (.inr (zS sh)))))), (j0, .inr (0, [.ref z0, .ref jp, .ref jc, .int cn, .int de, .int tr, .int se, .int hu, .int sd])), (jp, .inl (cP, 8, .inr (.inr (.inr (.inr fp)))))] ++ [((sh j_7), .inr (4, [.ref (el j_7), .int he_j_7, .int si_j_7])), ((el j_7), .inl (cJ, 160, .inr (.inl (fe j_7))))]) ++ ((zShR cJ sh el he si fe j_7 ++ So) ++ po.1.map zPo)) from hD.part [0, 1, 2, 3, 4, 5, 6, 8, 9, 10, 12, 13, 11, 7] (by decide +kernel) rfl) (zSo_pin hj_7 _ _ _ (he_j_7 : Int32) (si_j_7 : Int32) (fe j_7))
  obtain ⟨he_11, ehe_11⟩ : ∃ z : Nat → Int32, z = va_up he j_7 (he_j_7 : Int32) := ⟨_, rfl⟩
  rw [← ehe_11] at hP hD
  have hp_he_11 : zRg he_11 (-1) 103 := by rw [ehe_11]; exact zRg_va hp_he bhe_j_7
  obtain ⟨si_12, esi_12⟩ : ∃ z : Nat → Int32, z = va_up si j_7 (si_j_7 : Int32) := ⟨_, rfl⟩
  rw [← esi_12] at hP hD
  have hp_si_12 : zRg si_12 (0) 160 := by rw [esi_12]; exact zRg_va hp_si bsi_j_7
  obtain ⟨fe_13, efe_13⟩ : ∃ z : Nat → Nat → Int64, z = va_up fe j_7 (fe j_7) := ⟨_, rfl⟩
  rw [← efe_13] at hP hD
  have h9R := zRe (ws' := ([(zMO m0 npu nte nat_ nde nto nse nhu nga nsd nfa mrf mki mpa mta mla msl mco mhe mso msi msh mce mca mwo mnu mte nba npl nen nnu nwr mwa mke mma mth mtr nra nik), (mrf, .inl (cI, 8, .inl grf)), (mki, .inl (cI, 8, .inl gki)), (mpa, .inl (cI, 8, .inl gpa)), (mta, .inl (cI, 8, .inl gta)), (mhe, .inl (cI, 8, .inl ghe)), (msh, .inl (cI, 8, .inl gsh)), (x0, .inr (7, [.ref xs, .ref j0, .ref k0, .ref w0, .ref rd, .ref mv, .ref xr, .int im, .int lf])), (xr, .inl (cI, 8, .inl q_10)), (xs, .inl (cS, 8, .inr (.inr (.inr (.inr (zS sh)))))), (j0, .inr (0, [.ref z0, .ref jp, .ref jc, .int cn, .int de, .int tr, .int se, .int hu, .int sd])), (jp, .inl (cP, 8, .inr (.inr (.inr (.inr fp)))))] ++ ((zShW cJ sh el he_11 si_12 fe_13 ++ So) ++ po.1.map zPo))) hP hD rfl
  clear hP hD
  obtain ⟨hP, hD⟩ := h9R
  refine lv_pop hx hb dL_law_482 rfl ?_
  refine lv_aload_n hx hb dL_law_483 rfl (lv_at hl 1 rfl) ?_
  refine lv_aload_n hx hb dL_law_484 rfl (lv_at hl 3 rfl) ?_
  refine lv_iload_n hx hb dL_law_485 rfl (lv_at hl 0 rfl) ?_
  refine lv_iconst (v := 1) hx hb dL_law_486 (by decide) ?_
  refine lv_iadd hx hb dL_law_487 ?_
  refine lv_topi (fun y_14 ey_14 => ?_)
  obtain rfl : x_1 = y_14 := ex_1.trans ey_14.symm
  refine va_sld hx hb hX hbl hbA hS (zLin qx_1 (by decide) (by decide) hi6 hn6) dL_law_488 ?_
  refine lv_topi (fun y_15 ey_15 => ?_)
  obtain rfl : a_3 = y_15 := ea_3.trans ey_15.symm
  refine lv_aload_n hx hb dL_law_489 rfl (lv_at hl 3 rfl) ?_
  refine lv_iload_n hx hb dL_law_490 rfl (lv_at hl 0 rfl) ?_
  refine lv_iconst (v := 2) hx hb dL_law_491 (by decide) ?_
  refine lv_iadd hx hb dL_law_492 ?_
  refine lv_topi (fun y_16 ey_16 => ?_)
  obtain rfl : x_4 = y_16 := ex_4.trans ey_16.symm
  refine va_sld hx hb hX hbl hbA hS (zLin qx_4 (by decide) (by decide) hi6 hn6) dL_law_493 ?_
  refine lv_topi (fun y_17 ey_17 => ?_)
  obtain rfl : a_6 = y_17 := ea_6.trans ey_17.symm
  skip
  refine zt_V (As := [.int a_3, .int a_6]) (rest := []) (ws := [(zMO m0 npu nte nat_ nde nto nse nhu nga nsd nfa mrf mki mpa mta mla msl mco mhe mso msi msh mce mca mwo mnu mte nba npl nen nnu nwr mwa mke mma mth mtr nra nik), (mrf, .inl (cI, 8, .inl grf)), (mki, .inl (cI, 8, .inl gki)), (mpa, .inl (cI, 8, .inl gpa)), (mta, .inl (cI, 8, .inl gta)), (mhe, .inl (cI, 8, .inl ghe)), (msh, .inl (cI, 8, .inl gsh)), (x0, .inr (7, [.ref xs, .ref j0, .ref k0, .ref w0, .ref rd, .ref mv, .ref xr, .int im, .int lf])), (xr, .inl (cI, 8, .inl q_10)), (xs, .inl (cS, 8, .inr (.inr (.inr (.inr (zS sh)))))), (j0, .inr (0, [.ref z0, .ref jp, .ref jc, .int cn, .int de, .int tr, .int se, .int hu, .int sd])), (jp, .inl (cP, 8, .inr (.inr (.inr (.inr fp)))))]) (wr := [(x0, .inr (7, [.ref xs, .ref j0, .ref k0, .ref w0, .ref rd, .ref mv, .ref xr, .int im, .int lf])), (xr, .inl (cI, 8, .inl q_10)), (xs, .inl (cS, 8, .inr (.inr (.inr (.inr (zS sh)))))), (j0, .inr (0, [.ref z0, .ref jp, .ref jc, .int cn, .int de, .int tr, .int se, .int hu, .int sd])), (jp, .inl (cP, 8, .inr (.inr (.inr (.inr fp)))))]) ⟨hx, hb, hml, hown, hts⟩ (c_F_M_says l D cI cJ cZ cP cS po m0 mrf mki mpa mta mla msl mco mhe mso msi msh mce mca mwo mnu mte mwa mke mma mth mtr (npu) (nte) (nat_) (nde) (nto) (nse) (nhu) (nga) (nsd) (nfa) (nba) (npl) (nen) (nnu) (nwr) (nra) (nik) grf gki gpa gta ghe gsh (a_3) (a_6) b_npu.1 b_npu.2 b_nte.1 b_nte.2 b_nat_.1 b_nat_.2 b_nde.1 b_nde.2 b_nhu.1 b_nhu.2 b_nra.1 b_nra.2 b_nik.1 b_nik.2 hHS hp_gki hp_gpa hp_gta hp_ghe hp_gsh H.size) (cwV 2 hts gq_48 rfl rfl rfl ⟨rfl, dh_X8_says⟩ ⟨Nat.le_of_ble_eq_true rfl, Nat.le_of_ble_eq_true rfl⟩) hK hN hP hD hS hA [0, 1, 2, 3, 4, 5, 6] [7, 8, 9, 10, 11] rfl rfl (by decide) (by decide) (by decide) (zE_law (isC := [0, 1, 2, 3, 4, 5, 6]) hz1 hz2 hP hD hS hA rfl hpr) (va_recv (q := (RX8, TX8, 38)) hK hP (ci := 8) (q0 := 0) rfl rfl) rfl hl.1 rfl (Nat.le_of_ble_eq_true rfl) dL_law_494 ⟨zRmC hkc hn6 hL (by decide), zRmS hks hn6 hL (by decide)⟩ (fun r_18 u_19 H locs hr_18 hP hD hS => ?_)
  obtain ⟨q_20, rfl⟩ : ∃ z, z = u_19 := ⟨_, rfl⟩
  obtain ⟨hsr_18_0, hr_18⟩ := hr_18
  have h9R := zRe (ws' := ([(x0, .inr (7, [.ref xs, .ref j0, .ref k0, .ref w0, .ref rd, .ref mv, .ref xr, .int im, .int lf])), (xr, .inl (cI, 8, .inl q_10)), (xs, .inl (cS, 8, .inr (.inr (.inr (.inr (zS sh)))))), (j0, .inr (0, [.ref z0, .ref jp, .ref jc, .int cn, .int de, .int tr, .int se, .int hu, .int sd])), (jp, .inl (cP, 8, .inr (.inr (.inr (.inr fp))))), (zMO m0 npu nte nat_ nde nto nse nhu nga nsd nfa mrf mki mpa mta mla msl mco mhe mso msi msh mce mca mwo mnu mte nba npl nen nnu nwr mwa mke mma mth mtr nra nik), (mrf, .inl (cI, 8, .inl q_20)), (mki, .inl (cI, 8, .inl gki)), (mpa, .inl (cI, 8, .inl gpa)), (mta, .inl (cI, 8, .inl gta)), (mhe, .inl (cI, 8, .inl ghe)), (msh, .inl (cI, 8, .inl gsh))] ++ ((zShW cJ sh el he_11 si_12 fe_13 ++ So) ++ po.1.map zPo))) hP hD rfl
  clear hP hD
  obtain ⟨hP, hD⟩ := h9R
  have hR9 : zRel he_11 si_12 fe_13 ghe gso gsi gsh gce := by rw [ehe_11, esi_12, efe_13, ehe_j_7, esi_j_7, zUpS, zUpS, zUpS]; exact hR
  refine lv_pop hx hb dL_law_497 rfl ?_
  refine lv_goto (tgt := 1370) hx hb dL_law_498 (by decide) ?_
  exact hnx im lf cn de tr se hu sd npu nte nat_ nde nto nse nhu nga nsd nfa nba npl nen nnu nwr nra nik q_10 q_20 gki gpa gta ghe gsh he_11 si_12 kf af tf fp fe_13 b_im b_lf b_cn b_de b_se b_hu b_npu b_nte b_nat_ b_nde b_nhu b_nra b_nik hp_gki hp_gpa hp_gta hp_ghe hp_gsh hp_he_11 hp_si_12 hjp hjwp hHS hik hR9 hcn hsz him hlf hkq hT hTk hKI hKk hNu hNk _ _ (zRmN hkc) (zRmM hks) H locs (hP.part [0, 2, 3, 4, 1, 5, 6, 7, 8, 9, 10, 11] rfl) (hD.part [0, 2, 3, 4, 1, 5, 6, 7, 8, 9, 10, 11] (by decide +kernel) rfl) hS ls (lv_sub hl [0, 1, 2, 3] rfl)
set_option maxHeartbeats 16000000 in
set_option maxRecDepth 200000 in
theorem law_core_7 {p : Program} {l : Launch} {e : Env} {s : State} {m : MethodId} {below : List Frame} {meth : Method} {c : Code} {D : va_G} {cI cJ cZ cP cS : ClassId} {b L : Nat} {xs_ : Nat → Int32} (x0 xs j0 k0 w0 rd mv xr z0 jp jc m0 mrf mki mpa mta mla msl mco mhe mso msi msh mce mca mwo mnu mte mwa mke mma mth mtr : Nat) {So : va_W} (n nkc nks : Nat) (i : Int32) (po : zPool) (im lf cn de tr se hu sd sz at_ gp kcn kde ktr kse khu ksd ksz kat kgp npu nte nat_ nde nto nse nhu nga nsd nfa nba npl nen nnu nwr nra nik : Int32) (fzl fzs fjc fkzl fkzs fkc fxr grf gki gpa gta gla gsl gco gke kf af tf kkf kaf ktf : Nat → Int32) (fp fkp fq : Nat → Option Nat) (C0 : lw_At p s m meth c b L xs_) (hK : va_K D vwCl (zKT cI cJ cZ cP cS) s) (hN : zN s) (hz1 : zSt (fun q : Nat => s.heap.size ≤ q) s s.heap) (hL : L ≤ 3072) (b_im : 0 ≤ im.toInt ∧ im.toInt ≤ 1) (b_lf : (-1) ≤ lf.toInt ∧ lf.toInt ≤ 160) (b_cn : 0 ≤ cn.toInt ∧ cn.toInt ≤ 8) (b_de : 0 ≤ de.toInt ∧ de.toInt ≤ 24) (b_se : 0 ≤ se.toInt ∧ se.toInt ≤ 300) (b_hu : 0 ≤ hu.toInt ∧ hu.toInt ≤ 9) (b_npu : 0 ≤ npu.toInt ∧ npu.toInt ≤ 8) (b_nte : 4 ≤ nte.toInt ∧ nte.toInt ≤ 40) (b_nat_ : 0 ≤ nat_.toInt ∧ nat_.toInt ≤ 40) (b_nde : 0 ≤ nde.toInt ∧ nde.toInt ≤ 24) (b_nhu : 0 ≤ nhu.toInt ∧ nhu.toInt ≤ 9) (b_nra : 0 ≤ nra.toInt ∧ nra.toInt ≤ 2000) (b_nik : 0 ≤ nik.toInt ∧ nik.toInt ≤ 1) (hp_gki : zRg gki (0) 6) (hp_gpa : zRg gpa (0) 9) (hp_gta : zRg gta (0) 60) (hjp : zJP po fp cn kf af tf) (hjwp : zWP po fp) (hkjp : zJP po fkp kcn kkf kaf ktf) (hkwp : zWP po fkp) (hwq : zWP po fq) (hik : (nik.toInt = 1 → zKp gke)) (hcn : cn.toInt = npu.toInt) (hsz : sz.toInt = nte.toInt) (him : im.toInt = nik.toInt) (hlf : lf.toInt = nfa.toInt) (hkq : (nik.toInt = 1 → kcn.toInt = (gke 107).toInt ∧ ksz.toInt = (gke 108).toInt)) (hT : zTt fzl fzs gla gsl gp nga) (hTk : (nik.toInt = 1 → zTk_ fkzl fkzs gke kgp)) (hKI : zTp kf af tf gki gpa gta hu nhu) (hKk : (nik.toInt = 1 → zTq kkf kaf ktf gke khu)) (hNu : zNu de at_ se tr sd fjc nde nat_ nse nto nsd gco) (hNk : (nik.toInt = 1 → zNk kde kat kse ktr ksd fkc gke)) (hz2 : zStr po (fun q : Nat => s.heap.size ≤ q) s s.heap) (hpr : ∀ z ∈ po.1, zPr z.2.1 z.2.2.1 z.2.2.2) (hkc : nkc ≤ 100 + 40 * n) (hks : nks ≤ 10000 + 120 * n) (hi6 : i.toInt = 6 * (n : Int)) (hn6 : 6 * (n : Int) + 6 ≤ (L : Int)) (H : Heap) (locs : List Loc) (hP : va_P D vwCl ([(x0, .inr (7, [.ref xs, .ref j0, .ref k0, .ref w0, .ref rd, .ref mv, .ref xr, .int im, .int lf])), (j0, .inr (0, [.ref z0, .ref jp, .ref jc, .int cn, .int de, .int tr, .int se, .int hu, .int sd])), (jp, .inl (cP, 8, .inr (.inr (.inr (.inr fp))))), (xr, .inl (cI, 8, .inl fxr)), (zMO m0 npu nte nat_ nde nto nse nhu nga nsd nfa mrf mki mpa mta mla msl mco mhe mso msi msh mce mca mwo mnu mte nba npl nen nnu nwr mwa mke mma mth mtr nra nik), (mrf, .inl (cI, 8, .inl grf)), (mki, .inl (cI, 8, .inl gki)), (mpa, .inl (cI, 8, .inl gpa)), (mta, .inl (cI, 8, .inl gta))] ++ (So ++ po.1.map zPo)) H) (hD : va_D (fun q : Nat => s.heap.size ≤ q) ([(x0, .inr (7, [.ref xs, .ref j0, .ref k0, .ref w0, .ref rd, .ref mv, .ref xr, .int im, .int lf])), (j0, .inr (0, [.ref z0, .ref jp, .ref jc, .int cn, .int de, .int tr, .int se, .int hu, .int sd])), (jp, .inl (cP, 8, .inr (.inr (.inr (.inr fp))))), (xr, .inl (cI, 8, .inl fxr)), (zMO m0 npu nte nat_ nde nto nse nhu nga nsd nfa mrf mki mpa mta mla msl mco mhe mso msi msh mce mca mwo mnu mte nba npl nen nnu nwr mwa mke mma mth mtr nra nik), (mrf, .inl (cI, 8, .inl grf)), (mki, .inl (cI, 8, .inl gki)), (mpa, .inl (cI, 8, .inl gpa)), (mta, .inl (cI, 8, .inl gta))] ++ (So ++ po.1.map zPo))) (hS : va_S (fun q : Nat => s.heap.size ≤ q) s.heap H locs) (ls : Array Slot) (hl : lv_has ls 4 [(3, .int i), (2, .ref m0), (1, .ref x0), (0, .ref b)]) (hnx : ∀ (po : zPool) (im lf cn de tr se hu sd npu nte nat_ nde nto nse nhu nga nsd nfa nba npl nen nnu nwr nra nik : Int32) (fxr grf gki gpa gta kf af tf : Nat → Int32) (fp : Nat → Option Nat) (b_im : 0 ≤ im.toInt ∧ im.toInt ≤ 1) (b_lf : (-1) ≤ lf.toInt ∧ lf.toInt ≤ 160) (b_cn : 0 ≤ cn.toInt ∧ cn.toInt ≤ 8) (b_de : 0 ≤ de.toInt ∧ de.toInt ≤ 24) (b_se : 0 ≤ se.toInt ∧ se.toInt ≤ 300) (b_hu : 0 ≤ hu.toInt ∧ hu.toInt ≤ 9) (b_npu : 0 ≤ npu.toInt ∧ npu.toInt ≤ 8) (b_nte : 4 ≤ nte.toInt ∧ nte.toInt ≤ 40) (b_nat_ : 0 ≤ nat_.toInt ∧ nat_.toInt ≤ 40) (b_nde : 0 ≤ nde.toInt ∧ nde.toInt ≤ 24) (b_nhu : 0 ≤ nhu.toInt ∧ nhu.toInt ≤ 9) (b_nra : 0 ≤ nra.toInt ∧ nra.toInt ≤ 2000) (b_nik : 0 ≤ nik.toInt ∧ nik.toInt ≤ 1) (hp_gki : zRg gki (0) 6) (hp_gpa : zRg gpa (0) 9) (hp_gta : zRg gta (0) 60) (hjp : zJP po fp cn kf af tf) (hjwp : zWP po fp) (hkjp : zJP po fkp kcn kkf kaf ktf) (hkwp : zWP po fkp) (hwq : zWP po fq) (hik : (nik.toInt = 1 → zKp gke)) (hcn : cn.toInt = npu.toInt) (hsz : sz.toInt = nte.toInt) (him : im.toInt = nik.toInt) (hlf : lf.toInt = nfa.toInt) (hkq : (nik.toInt = 1 → kcn.toInt = (gke 107).toInt ∧ ksz.toInt = (gke 108).toInt)) (hT : zTt fzl fzs gla gsl gp nga) (hTk : (nik.toInt = 1 → zTk_ fkzl fkzs gke kgp)) (hKI : zTp kf af tf gki gpa gta hu nhu) (hKk : (nik.toInt = 1 → zTq kkf kaf ktf gke khu)) (hNu : zNu de at_ se tr sd fjc nde nat_ nse nto nsd gco) (hNk : (nik.toInt = 1 → zNk kde kat kse ktr ksd fkc gke)) (hz2 : zStr po (fun q : Nat => s.heap.size ≤ q) s s.heap) (hpr : ∀ z ∈ po.1, zPr z.2.1 z.2.2.1 z.2.2.2) (nkc nks : Nat) (hkc : nkc ≤ 100 + 40 * (n + 1)) (hks : nks ≤ 10000 + 120 * (n + 1)) (H : Heap) (locs : List Loc) (hP : va_P D vwCl ([(x0, .inr (7, [.ref xs, .ref j0, .ref k0, .ref w0, .ref rd, .ref mv, .ref xr, .int im, .int lf])), (j0, .inr (0, [.ref z0, .ref jp, .ref jc, .int cn, .int de, .int tr, .int se, .int hu, .int sd])), (jp, .inl (cP, 8, .inr (.inr (.inr (.inr fp))))), (xr, .inl (cI, 8, .inl fxr)), (zMO m0 npu nte nat_ nde nto nse nhu nga nsd nfa mrf mki mpa mta mla msl mco mhe mso msi msh mce mca mwo mnu mte nba npl nen nnu nwr mwa mke mma mth mtr nra nik), (mrf, .inl (cI, 8, .inl grf)), (mki, .inl (cI, 8, .inl gki)), (mpa, .inl (cI, 8, .inl gpa)), (mta, .inl (cI, 8, .inl gta))] ++ (So ++ po.1.map zPo)) H) (hD : va_D (fun q : Nat => s.heap.size ≤ q) ([(x0, .inr (7, [.ref xs, .ref j0, .ref k0, .ref w0, .ref rd, .ref mv, .ref xr, .int im, .int lf])), (j0, .inr (0, [.ref z0, .ref jp, .ref jc, .int cn, .int de, .int tr, .int se, .int hu, .int sd])), (jp, .inl (cP, 8, .inr (.inr (.inr (.inr fp))))), (xr, .inl (cI, 8, .inl fxr)), (zMO m0 npu nte nat_ nde nto nse nhu nga nsd nfa mrf mki mpa mta mla msl mco mhe mso msi msh mce mca mwo mnu mte nba npl nen nnu nwr mwa mke mma mth mtr nra nik), (mrf, .inl (cI, 8, .inl grf)), (mki, .inl (cI, 8, .inl gki)), (mpa, .inl (cI, 8, .inl gpa)), (mta, .inl (cI, 8, .inl gta))] ++ (So ++ po.1.map zPo))) (hS : va_S (fun q : Nat => s.heap.size ≤ q) s.heap H locs) (ls : Array Slot) (hl : lv_has ls 4 [(3, .int i), (2, .ref m0), (1, .ref x0), (0, .ref b)]), W p l e room_1 s m #[Value.ref b] below meth c H locs nkc nks (lw_Z below #[Value.ref b] s) (F0 m 1370 ls [])) : W p l e room_1 s m #[Value.ref b] below meth c H locs nkc nks (lw_Z below #[Value.ref b] s) (F0 m 501 ls []) := by
  obtain ⟨hx, hb, hr, hml, hown0, hts, hX, hbl, hlocks, hgv⟩ := id C0
  have hown : s.vm.findClass RL = some m.cls := hown0
  have hA : ∀ q : Nat, s.heap.size ≤ q → (fun q : Nat => s.heap.size ≤ q) q := fun _ h => h
  have hbA : ¬ (fun q : Nat => s.heap.size ≤ q) b := Nat.not_le.mpr hbl
  obtain ⟨hNa, hNb, hNc, -⟩ := id hNu
  refine lv_aload_n hx hb dL_law_501 rfl (lv_at hl 2 rfl) ?_
  refine lv_aload_n hx hb dL_law_502 rfl (lv_at hl 3 rfl) ?_
  refine lv_iload_n hx hb dL_law_503 rfl (lv_at hl 0 rfl) ?_
  refine lv_iconst (v := 1) hx hb dL_law_504 (by decide) ?_
  refine lv_iadd hx hb dL_law_505 ?_
  refine lv_topi (fun x_1 ex_1 => ?_)
  have qx_1 : x_1.toInt = i.toInt + 1 := zLadd ex_1 (by decide) (by decide) (by decide) hi6 hn6 hL
  refine va_sld hx hb hX hbl hbA hS (zLin qx_1 (by decide) (by decide) hi6 hn6) dL_law_506 ?_
  refine lv_topi (fun a_3 ea_3 => ?_)
  refine lv_aload_n hx hb dL_law_507 rfl (lv_at hl 3 rfl) ?_
  refine lv_iload_n hx hb dL_law_508 rfl (lv_at hl 0 rfl) ?_
  refine lv_iconst (v := 2) hx hb dL_law_509 (by decide) ?_
  refine lv_iadd hx hb dL_law_510 ?_
  refine lv_topi (fun x_4 ex_4 => ?_)
  have qx_4 : x_4.toInt = i.toInt + 2 := zLadd ex_4 (by decide) (by decide) (by decide) hi6 hn6 hL
  refine va_sld hx hb hX hbl hbA hS (zLin qx_4 (by decide) (by decide) hi6 hn6) dL_law_511 ?_
  refine lv_topi (fun a_6 ea_6 => ?_)
  refine lv_aload_n hx hb dL_law_512 rfl (lv_at hl 3 rfl) ?_
  refine lv_iload_n hx hb dL_law_513 rfl (lv_at hl 0 rfl) ?_
  refine lv_iconst (v := 3) hx hb dL_law_514 (by decide) ?_
  refine lv_iadd hx hb dL_law_515 ?_
  refine lv_topi (fun x_7 ex_7 => ?_)
  have qx_7 : x_7.toInt = i.toInt + 3 := zLadd ex_7 (by decide) (by decide) (by decide) hi6 hn6 hL
  refine va_sld hx hb hX hbl hbA hS (zLin qx_7 (by decide) (by decide) hi6 hn6) dL_law_516 ?_
  refine lv_topi (fun a_9 ea_9 => ?_)
  skip
  refine zt_V (As := [.int a_3, .int a_6, .int a_9]) (rest := []) (ws := [(x0, .inr (7, [.ref xs, .ref j0, .ref k0, .ref w0, .ref rd, .ref mv, .ref xr, .int im, .int lf])), (j0, .inr (0, [.ref z0, .ref jp, .ref jc, .int cn, .int de, .int tr, .int se, .int hu, .int sd])), (jp, .inl (cP, 8, .inr (.inr (.inr (.inr fp))))), (xr, .inl (cI, 8, .inl fxr)), (zMO m0 npu nte nat_ nde nto nse nhu nga nsd nfa mrf mki mpa mta mla msl mco mhe mso msi msh mce mca mwo mnu mte nba npl nen nnu nwr mwa mke mma mth mtr nra nik), (mrf, .inl (cI, 8, .inl grf)), (mki, .inl (cI, 8, .inl gki)), (mpa, .inl (cI, 8, .inl gpa)), (mta, .inl (cI, 8, .inl gta))]) (wr := [(zMO m0 npu nte nat_ nde nto nse nhu nga nsd nfa mrf mki mpa mta mla msl mco mhe mso msi msh mce mca mwo mnu mte nba npl nen nnu nwr mwa mke mma mth mtr nra nik), (mrf, .inl (cI, 8, .inl grf)), (mki, .inl (cI, 8, .inl gki)), (mpa, .inl (cI, 8, .inl gpa)), (mta, .inl (cI, 8, .inl gta))]) ⟨hx, hb, hml, hown, hts⟩ (c_F_X_pull l D cI cJ cZ cP cS po x0 xs j0 k0 w0 rd mv xr (im) (lf) fxr j0 jp jc z0 0 0 (cn) (de) (tr) (se) (hu) (sd) fp kf af tf (a_3) (a_6) (a_9) b_im.1 b_im.2 b_lf.1 b_lf.2 b_cn.1 b_cn.2 b_de.1 b_de.2 b_hu.1 b_hu.2 H.size) (cwV 3 hts gq_49 rfl rfl rfl ⟨rfl, dh_X7_pull⟩ ⟨Nat.le_of_ble_eq_true rfl, Nat.le_of_ble_eq_true rfl⟩) hK hN hP hD hS hA [0, 3, 1, 2] [4, 5, 6, 7, 8] rfl rfl (by decide) (by decide) (by decide) (zE_law (isC := [0, 3, 1, 2]) hz1 hz2 hP hD hS hA rfl hpr) (va_recv (q := (RX7, TX7, 9)) hK hP (ci := 7) (q0 := 0) rfl rfl) rfl hl.1 rfl (Nat.le_of_ble_eq_true rfl) dL_law_517 ⟨zRmC hkc hn6 hL (by decide), zRmS hks hn6 hL (by decide)⟩ (fun r_10 u_11 H locs hr_10 hP hD hS => ?_)
  obtain ⟨q_12, q_13, q_14, q_15, q_16, q_17, q_18⟩ := u_11
  try dsimp only at hr_10
  obtain ⟨hbq_12, hnpq_18, hsr_10_0, hsr_10_1, hsr_10_2, hsr_10_3, hr_10⟩ := hr_10
  replace hP := zP_perm hP (zNP_perm _ _ _ _ _)
  replace hD := zD_perm hD (zNP_perm _ _ _ _ _)
  obtain ⟨hjp9, hjwp9⟩ := hsr_10_0 po.1 hjp hjwp
  replace hjp : zJP (q_18 ++ po.1, po.2) q_13 (q_12 : Int32) q_15 q_16 q_17 := hjp9
  replace hjwp : zWP (q_18 ++ po.1, po.2) q_13 := hjwp9
  replace hkjp : zJP (q_18 ++ po.1, po.2) fkp kcn kkf kaf ktf := hkjp.mono
  replace hkwp : zWP (q_18 ++ po.1, po.2) fkp := hkwp.mono
  replace hwq : zWP (q_18 ++ po.1, po.2) fq := hwq.mono
  replace hz2 : zStr (q_18 ++ po.1, po.2) (fun q : Nat => s.heap.size ≤ q) s s.heap := hz2
  replace hpr : ∀ z ∈ (q_18 ++ po.1, po.2).1, zPr z.2.1 z.2.2.1 z.2.2.2 := fun z hz => (List.mem_append.mp hz).elim (hnpq_18 z) (hpr z)
  obtain ⟨po_19, epo_19⟩ : ∃ z : zPool, z = (q_18 ++ po.1, po.2) := ⟨_, rfl⟩
  rw [← epo_19] at hjp hjwp hkjp hkwp hwq hz2 hpr
  replace hP : va_P D vwCl ([(zMO m0 npu nte nat_ nde nto nse nhu nga nsd nfa mrf mki mpa mta mla msl mco mhe mso msi msh mce mca mwo mnu mte nba npl nen nnu nwr mwa mke mma mth mtr nra nik), (mrf, .inl (cI, 8, .inl grf)), (mki, .inl (cI, 8, .inl gki)), (mpa, .inl (cI, 8, .inl gpa)), (mta, .inl (cI, 8, .inl gta)), (x0, .inr (7, [.ref xs, .ref j0, .ref k0, .ref w0, .ref rd, .ref mv, .ref xr, .int im, .int lf])), (xr, .inl (cI, 8, .inl q_14)), (j0, .inr (0, [.ref z0, .ref jp, .ref jc, .int q_12, .int de, .int tr, .int se, .int hu, .int sd])), (jp, .inl (cP, 8, .inr (.inr (.inr (.inr q_13)))))] ++ (So ++ po_19.1.map zPo)) H := by rw [epo_19]; exact hP
  replace hD : va_D (fun q : Nat => s.heap.size ≤ q) ([(zMO m0 npu nte nat_ nde nto nse nhu nga nsd nfa mrf mki mpa mta mla msl mco mhe mso msi msh mce mca mwo mnu mte nba npl nen nnu nwr mwa mke mma mth mtr nra nik), (mrf, .inl (cI, 8, .inl grf)), (mki, .inl (cI, 8, .inl gki)), (mpa, .inl (cI, 8, .inl gpa)), (mta, .inl (cI, 8, .inl gta)), (x0, .inr (7, [.ref xs, .ref j0, .ref k0, .ref w0, .ref rd, .ref mv, .ref xr, .int im, .int lf])), (xr, .inl (cI, 8, .inl q_14)), (j0, .inr (0, [.ref z0, .ref jp, .ref jc, .int q_12, .int de, .int tr, .int se, .int hu, .int sd])), (jp, .inl (cP, 8, .inr (.inr (.inr (.inr q_13)))))] ++ (So ++ po_19.1.map zPo)) := by rw [epo_19]; exact hD
  have h9R := zRe (ws' := ([(zMO m0 npu nte nat_ nde nto nse nhu nga nsd nfa mrf mki mpa mta mla msl mco mhe mso msi msh mce mca mwo mnu mte nba npl nen nnu nwr mwa mke mma mth mtr nra nik), (mrf, .inl (cI, 8, .inl grf)), (mki, .inl (cI, 8, .inl gki)), (mpa, .inl (cI, 8, .inl gpa)), (mta, .inl (cI, 8, .inl gta)), (x0, .inr (7, [.ref xs, .ref j0, .ref k0, .ref w0, .ref rd, .ref mv, .ref xr, .int im, .int lf])), (xr, .inl (cI, 8, .inl q_14)), (j0, .inr (0, [.ref z0, .ref jp, .ref jc, .int q_12, .int de, .int tr, .int se, .int hu, .int sd])), (jp, .inl (cP, 8, .inr (.inr (.inr (.inr q_13)))))] ++ (So ++ po_19.1.map zPo))) hP hD rfl
  clear hP hD
  obtain ⟨hP, hD⟩ := h9R
  refine lv_pop hx hb dL_law_520 rfl ?_
  refine lv_aload_n hx hb dL_law_521 rfl (lv_at hl 1 rfl) ?_
  refine lv_aload_n hx hb dL_law_522 rfl (lv_at hl 3 rfl) ?_
  refine lv_iload_n hx hb dL_law_523 rfl (lv_at hl 0 rfl) ?_
  refine lv_iconst (v := 1) hx hb dL_law_524 (by decide) ?_
  refine lv_iadd hx hb dL_law_525 ?_
  refine lv_topi (fun y_20 ey_20 => ?_)
  obtain rfl : x_1 = y_20 := ex_1.trans ey_20.symm
  refine va_sld hx hb hX hbl hbA hS (zLin qx_1 (by decide) (by decide) hi6 hn6) dL_law_526 ?_
  refine lv_topi (fun y_21 ey_21 => ?_)
  obtain rfl : a_3 = y_21 := ea_3.trans ey_21.symm
  refine lv_aload_n hx hb dL_law_527 rfl (lv_at hl 3 rfl) ?_
  refine lv_iload_n hx hb dL_law_528 rfl (lv_at hl 0 rfl) ?_
  refine lv_iconst (v := 2) hx hb dL_law_529 (by decide) ?_
  refine lv_iadd hx hb dL_law_530 ?_
  refine lv_topi (fun y_22 ey_22 => ?_)
  obtain rfl : x_4 = y_22 := ex_4.trans ey_22.symm
  refine va_sld hx hb hX hbl hbA hS (zLin qx_4 (by decide) (by decide) hi6 hn6) dL_law_531 ?_
  refine lv_topi (fun y_23 ey_23 => ?_)
  obtain rfl : a_6 = y_23 := ea_6.trans ey_23.symm
  refine lv_aload_n hx hb dL_law_532 rfl (lv_at hl 3 rfl) ?_
  refine lv_iload_n hx hb dL_law_533 rfl (lv_at hl 0 rfl) ?_
  refine lv_iconst (v := 3) hx hb dL_law_534 (by decide) ?_
  refine lv_iadd hx hb dL_law_535 ?_
  refine lv_topi (fun y_24 ey_24 => ?_)
  obtain rfl : x_7 = y_24 := ex_7.trans ey_24.symm
  refine va_sld hx hb hX hbl hbA hS (zLin qx_7 (by decide) (by decide) hi6 hn6) dL_law_536 ?_
  refine lv_topi (fun y_25 ey_25 => ?_)
  obtain rfl : a_9 = y_25 := ea_9.trans ey_25.symm
  skip
  refine zt_V (As := [.int a_3, .int a_6, .int a_9]) (rest := []) (ws := [(zMO m0 npu nte nat_ nde nto nse nhu nga nsd nfa mrf mki mpa mta mla msl mco mhe mso msi msh mce mca mwo mnu mte nba npl nen nnu nwr mwa mke mma mth mtr nra nik), (mrf, .inl (cI, 8, .inl grf)), (mki, .inl (cI, 8, .inl gki)), (mpa, .inl (cI, 8, .inl gpa)), (mta, .inl (cI, 8, .inl gta)), (x0, .inr (7, [.ref xs, .ref j0, .ref k0, .ref w0, .ref rd, .ref mv, .ref xr, .int im, .int lf])), (xr, .inl (cI, 8, .inl q_14)), (j0, .inr (0, [.ref z0, .ref jp, .ref jc, .int q_12, .int de, .int tr, .int se, .int hu, .int sd])), (jp, .inl (cP, 8, .inr (.inr (.inr (.inr q_13)))))]) (wr := [(x0, .inr (7, [.ref xs, .ref j0, .ref k0, .ref w0, .ref rd, .ref mv, .ref xr, .int im, .int lf])), (xr, .inl (cI, 8, .inl q_14)), (j0, .inr (0, [.ref z0, .ref jp, .ref jc, .int q_12, .int de, .int tr, .int se, .int hu, .int sd])), (jp, .inl (cP, 8, .inr (.inr (.inr (.inr q_13)))))]) ⟨hx, hb, hml, hown, hts⟩ (c_F_M_pull l D cI cJ cZ cP cS po_19 m0 mrf mki mpa mta mla msl mco mhe mso msi msh mce mca mwo mnu mte mwa mke mma mth mtr (npu) (nte) (nat_) (nde) (nto) (nse) (nhu) (nga) (nsd) (nfa) (nba) (npl) (nen) (nnu) (nwr) (nra) (nik) grf gki gpa gta (a_3) (a_6) (a_9) b_npu.1 b_npu.2 b_nte.1 b_nte.2 b_nat_.1 b_nat_.2 b_nde.1 b_nde.2 b_nhu.1 b_nhu.2 b_nra.1 b_nra.2 b_nik.1 b_nik.2 hp_gki hp_gpa hp_gta H.size) (cwV 3 hts gq_52 rfl rfl rfl ⟨rfl, dh_X8_pull⟩ ⟨Nat.le_of_ble_eq_true rfl, Nat.le_of_ble_eq_true rfl⟩) hK hN hP hD hS hA [0, 1, 2, 3, 4] [5, 6, 7, 8] rfl rfl (by decide) (by decide) (by decide) (zE_law (isC := [0, 1, 2, 3, 4]) hz1 hz2 hP hD hS hA rfl hpr) (va_recv (q := (RX8, TX8, 38)) hK hP (ci := 8) (q0 := 0) rfl rfl) rfl hl.1 rfl (Nat.le_of_ble_eq_true rfl) dL_law_537 ⟨by (show (nkc + 1) + 0 ≤ 600000; omega), by (show (nks + 3) + 0 ≤ 7302250; omega)⟩ (fun r_26 u_27 H locs hr_26 hP hD hS => ?_)
  obtain ⟨q_28, q_29, q_30, q_31, q_32⟩ := u_27
  try dsimp only at hr_26
  obtain ⟨hbq_28, hpq_30, hpq_31, hpq_32, hsr_26_0, hsr_26_1, hsr_26_2, hr_26⟩ := hr_26
  have h9R := zRe (ws' := ([(x0, .inr (7, [.ref xs, .ref j0, .ref k0, .ref w0, .ref rd, .ref mv, .ref xr, .int im, .int lf])), (xr, .inl (cI, 8, .inl q_14)), (j0, .inr (0, [.ref z0, .ref jp, .ref jc, .int q_12, .int de, .int tr, .int se, .int hu, .int sd])), (jp, .inl (cP, 8, .inr (.inr (.inr (.inr q_13))))), (zMO m0 q_28 nte nat_ nde nto nse nhu nga nsd nfa mrf mki mpa mta mla msl mco mhe mso msi msh mce mca mwo mnu mte nba npl nen nnu nwr mwa mke mma mth mtr nra nik), (mrf, .inl (cI, 8, .inl q_29)), (mki, .inl (cI, 8, .inl q_30)), (mpa, .inl (cI, 8, .inl q_31)), (mta, .inl (cI, 8, .inl q_32))] ++ (So ++ po_19.1.map zPo))) hP hD rfl
  clear hP hD
  obtain ⟨hP, hD⟩ := h9R
  have hA : r_10.toInt = r_26.toInt := by rw [hsr_10_1, hsr_26_0, hcn]
  have hU9 := zTp_pull hKI hcn hA hsr_10_3 hsr_26_2
  refine lv_pop hx hb dL_law_540 rfl ?_
  refine lv_goto (tgt := 1370) hx hb dL_law_541 (by decide) ?_
  exact hnx po_19 im lf q_12 de tr se hu sd q_28 nte nat_ nde nto nse nhu nga nsd nfa nba npl nen nnu nwr nra nik q_14 q_29 q_30 q_31 q_32 q_15 q_16 q_17 q_13 b_im b_lf hbq_12 b_de b_se b_hu hbq_28 b_nte b_nat_ b_nde b_nhu b_nra b_nik hpq_30 hpq_31 hpq_32 hjp hjwp hkjp hkwp hwq hik (by omega) hsz him hlf hkq hT hTk hU9 hKk hNu hNk hz2 hpr (nkc + 1) (nks + 3) (by omega) (by omega) H locs (hP.part [0, 2, 3, 1, 4, 5, 6, 7, 8] rfl) (hD.part [0, 2, 3, 1, 4, 5, 6, 7, 8] (by decide +kernel) rfl) hS ls (lv_sub hl [0, 1, 2, 3] rfl)
set_option maxHeartbeats 16000000 in
set_option maxRecDepth 200000 in
theorem law_core_8 {p : Program} {l : Launch} {e : Env} {s : State} {m : MethodId} {below : List Frame} {meth : Method} {c : Code} {D : va_G} {cI cJ cZ cP cS : ClassId} {b L : Nat} {xs_ : Nat → Int32} (x0 xs j0 k0 w0 rd mv xr z0 jp jc m0 mrf mki mpa mta mla msl mco mhe mso msi msh mce mca mwo mnu mte mwa mke mma mth mtr : Nat) {So : va_W} (n nkc nks : Nat) (i : Int32) (po : zPool) (im lf cn de tr se hu sd sz at_ gp kcn kde ktr kse khu ksd ksz kat kgp npu nte nat_ nde nto nse nhu nga nsd nfa nba npl nen nnu nwr nra nik : Int32) (fzl fzs fjc fkzl fkzs fkc fxr grf gki gpa gta gla gsl gco gke kf af tf kkf kaf ktf : Nat → Int32) (fp : Nat → Option Nat) (C0 : lw_At p s m meth c b L xs_) (hK : va_K D vwCl (zKT cI cJ cZ cP cS) s) (hN : zN s) (hz1 : zSt (fun q : Nat => s.heap.size ≤ q) s s.heap) (hL : L ≤ 3072) (b_im : 0 ≤ im.toInt ∧ im.toInt ≤ 1) (b_lf : (-1) ≤ lf.toInt ∧ lf.toInt ≤ 160) (b_cn : 0 ≤ cn.toInt ∧ cn.toInt ≤ 8) (b_de : 0 ≤ de.toInt ∧ de.toInt ≤ 24) (b_se : 0 ≤ se.toInt ∧ se.toInt ≤ 300) (b_hu : 0 ≤ hu.toInt ∧ hu.toInt ≤ 9) (b_npu : 0 ≤ npu.toInt ∧ npu.toInt ≤ 8) (b_nte : 4 ≤ nte.toInt ∧ nte.toInt ≤ 40) (b_nat_ : 0 ≤ nat_.toInt ∧ nat_.toInt ≤ 40) (b_nde : 0 ≤ nde.toInt ∧ nde.toInt ≤ 24) (b_nhu : 0 ≤ nhu.toInt ∧ nhu.toInt ≤ 9) (b_nra : 0 ≤ nra.toInt ∧ nra.toInt ≤ 2000) (b_nik : 0 ≤ nik.toInt ∧ nik.toInt ≤ 1) (hp_gki : zRg gki (0) 6) (hp_gpa : zRg gpa (0) 9) (hp_gta : zRg gta (0) 60) (hjp : zJP po fp cn kf af tf) (hjwp : zWP po fp) (hik : (nik.toInt = 1 → zKp gke)) (hcn : cn.toInt = npu.toInt) (hsz : sz.toInt = nte.toInt) (him : im.toInt = nik.toInt) (hlf : lf.toInt = nfa.toInt) (hkq : (nik.toInt = 1 → kcn.toInt = (gke 107).toInt ∧ ksz.toInt = (gke 108).toInt)) (hT : zTt fzl fzs gla gsl gp nga) (hTk : (nik.toInt = 1 → zTk_ fkzl fkzs gke kgp)) (hKI : zTp kf af tf gki gpa gta hu nhu) (hKk : (nik.toInt = 1 → zTq kkf kaf ktf gke khu)) (hNu : zNu de at_ se tr sd fjc nde nat_ nse nto nsd gco) (hNk : (nik.toInt = 1 → zNk kde kat kse ktr ksd fkc gke)) (hz2 : zStr po (fun q : Nat => s.heap.size ≤ q) s s.heap) (hpr : ∀ z ∈ po.1, zPr z.2.1 z.2.2.1 z.2.2.2) (hkc : nkc ≤ 100 + 40 * n) (hks : nks ≤ 10000 + 120 * n) (hi6 : i.toInt = 6 * (n : Int)) (hn6 : 6 * (n : Int) + 6 ≤ (L : Int)) (H : Heap) (locs : List Loc) (hP : va_P D vwCl ([(x0, .inr (7, [.ref xs, .ref j0, .ref k0, .ref w0, .ref rd, .ref mv, .ref xr, .int im, .int lf])), (j0, .inr (0, [.ref z0, .ref jp, .ref jc, .int cn, .int de, .int tr, .int se, .int hu, .int sd])), (jp, .inl (cP, 8, .inr (.inr (.inr (.inr fp))))), (xr, .inl (cI, 8, .inl fxr)), (zMO m0 npu nte nat_ nde nto nse nhu nga nsd nfa mrf mki mpa mta mla msl mco mhe mso msi msh mce mca mwo mnu mte nba npl nen nnu nwr mwa mke mma mth mtr nra nik), (mrf, .inl (cI, 8, .inl grf)), (mki, .inl (cI, 8, .inl gki)), (mpa, .inl (cI, 8, .inl gpa)), (mta, .inl (cI, 8, .inl gta))] ++ (So ++ po.1.map zPo)) H) (hD : va_D (fun q : Nat => s.heap.size ≤ q) ([(x0, .inr (7, [.ref xs, .ref j0, .ref k0, .ref w0, .ref rd, .ref mv, .ref xr, .int im, .int lf])), (j0, .inr (0, [.ref z0, .ref jp, .ref jc, .int cn, .int de, .int tr, .int se, .int hu, .int sd])), (jp, .inl (cP, 8, .inr (.inr (.inr (.inr fp))))), (xr, .inl (cI, 8, .inl fxr)), (zMO m0 npu nte nat_ nde nto nse nhu nga nsd nfa mrf mki mpa mta mla msl mco mhe mso msi msh mce mca mwo mnu mte nba npl nen nnu nwr mwa mke mma mth mtr nra nik), (mrf, .inl (cI, 8, .inl grf)), (mki, .inl (cI, 8, .inl gki)), (mpa, .inl (cI, 8, .inl gpa)), (mta, .inl (cI, 8, .inl gta))] ++ (So ++ po.1.map zPo))) (hS : va_S (fun q : Nat => s.heap.size ≤ q) s.heap H locs) (ls : Array Slot) (hl : lv_has ls 4 [(3, .int i), (2, .ref m0), (1, .ref x0), (0, .ref b)]) (hnx : ∀ (im lf cn de tr se hu sd npu nte nat_ nde nto nse nhu nga nsd nfa nba npl nen nnu nwr nra nik : Int32) (fxr grf gki gpa gta kf af tf : Nat → Int32) (fp : Nat → Option Nat) (b_im : 0 ≤ im.toInt ∧ im.toInt ≤ 1) (b_lf : (-1) ≤ lf.toInt ∧ lf.toInt ≤ 160) (b_cn : 0 ≤ cn.toInt ∧ cn.toInt ≤ 8) (b_de : 0 ≤ de.toInt ∧ de.toInt ≤ 24) (b_se : 0 ≤ se.toInt ∧ se.toInt ≤ 300) (b_hu : 0 ≤ hu.toInt ∧ hu.toInt ≤ 9) (b_npu : 0 ≤ npu.toInt ∧ npu.toInt ≤ 8) (b_nte : 4 ≤ nte.toInt ∧ nte.toInt ≤ 40) (b_nat_ : 0 ≤ nat_.toInt ∧ nat_.toInt ≤ 40) (b_nde : 0 ≤ nde.toInt ∧ nde.toInt ≤ 24) (b_nhu : 0 ≤ nhu.toInt ∧ nhu.toInt ≤ 9) (b_nra : 0 ≤ nra.toInt ∧ nra.toInt ≤ 2000) (b_nik : 0 ≤ nik.toInt ∧ nik.toInt ≤ 1) (hp_gki : zRg gki (0) 6) (hp_gpa : zRg gpa (0) 9) (hp_gta : zRg gta (0) 60) (hjp : zJP po fp cn kf af tf) (hjwp : zWP po fp) (hik : (nik.toInt = 1 → zKp gke)) (hcn : cn.toInt = npu.toInt) (hsz : sz.toInt = nte.toInt) (him : im.toInt = nik.toInt) (hlf : lf.toInt = nfa.toInt) (hkq : (nik.toInt = 1 → kcn.toInt = (gke 107).toInt ∧ ksz.toInt = (gke 108).toInt)) (hT : zTt fzl fzs gla gsl gp nga) (hTk : (nik.toInt = 1 → zTk_ fkzl fkzs gke kgp)) (hKI : zTp kf af tf gki gpa gta hu nhu) (hKk : (nik.toInt = 1 → zTq kkf kaf ktf gke khu)) (hNu : zNu de at_ se tr sd fjc nde nat_ nse nto nsd gco) (hNk : (nik.toInt = 1 → zNk kde kat kse ktr ksd fkc gke)) (nkc nks : Nat) (hkc : nkc ≤ 100 + 40 * (n + 1)) (hks : nks ≤ 10000 + 120 * (n + 1)) (H : Heap) (locs : List Loc) (hP : va_P D vwCl ([(x0, .inr (7, [.ref xs, .ref j0, .ref k0, .ref w0, .ref rd, .ref mv, .ref xr, .int im, .int lf])), (j0, .inr (0, [.ref z0, .ref jp, .ref jc, .int cn, .int de, .int tr, .int se, .int hu, .int sd])), (jp, .inl (cP, 8, .inr (.inr (.inr (.inr fp))))), (xr, .inl (cI, 8, .inl fxr)), (zMO m0 npu nte nat_ nde nto nse nhu nga nsd nfa mrf mki mpa mta mla msl mco mhe mso msi msh mce mca mwo mnu mte nba npl nen nnu nwr mwa mke mma mth mtr nra nik), (mrf, .inl (cI, 8, .inl grf)), (mki, .inl (cI, 8, .inl gki)), (mpa, .inl (cI, 8, .inl gpa)), (mta, .inl (cI, 8, .inl gta))] ++ (So ++ po.1.map zPo)) H) (hD : va_D (fun q : Nat => s.heap.size ≤ q) ([(x0, .inr (7, [.ref xs, .ref j0, .ref k0, .ref w0, .ref rd, .ref mv, .ref xr, .int im, .int lf])), (j0, .inr (0, [.ref z0, .ref jp, .ref jc, .int cn, .int de, .int tr, .int se, .int hu, .int sd])), (jp, .inl (cP, 8, .inr (.inr (.inr (.inr fp))))), (xr, .inl (cI, 8, .inl fxr)), (zMO m0 npu nte nat_ nde nto nse nhu nga nsd nfa mrf mki mpa mta mla msl mco mhe mso msi msh mce mca mwo mnu mte nba npl nen nnu nwr mwa mke mma mth mtr nra nik), (mrf, .inl (cI, 8, .inl grf)), (mki, .inl (cI, 8, .inl gki)), (mpa, .inl (cI, 8, .inl gpa)), (mta, .inl (cI, 8, .inl gta))] ++ (So ++ po.1.map zPo))) (hS : va_S (fun q : Nat => s.heap.size ≤ q) s.heap H locs) (ls : Array Slot) (hl : lv_has ls 4 [(3, .int i), (2, .ref m0), (1, .ref x0), (0, .ref b)]), W p l e room_1 s m #[Value.ref b] below meth c H locs nkc nks (lw_Z below #[Value.ref b] s) (F0 m 1370 ls [])) : W p l e room_1 s m #[Value.ref b] below meth c H locs nkc nks (lw_Z below #[Value.ref b] s) (F0 m 544 ls []) := by
  obtain ⟨hx, hb, hr, hml, hown0, hts, hX, hbl, hlocks, hgv⟩ := id C0
  have hown : s.vm.findClass RL = some m.cls := hown0
  have hA : ∀ q : Nat, s.heap.size ≤ q → (fun q : Nat => s.heap.size ≤ q) q := fun _ h => h
  have hbA : ¬ (fun q : Nat => s.heap.size ≤ q) b := Nat.not_le.mpr hbl
  obtain ⟨hNa, hNb, hNc, -⟩ := id hNu
  refine lv_aload_n hx hb dL_law_544 rfl (lv_at hl 2 rfl) ?_
  refine lv_aload_n hx hb dL_law_545 rfl (lv_at hl 3 rfl) ?_
  refine lv_iload_n hx hb dL_law_546 rfl (lv_at hl 0 rfl) ?_
  refine lv_iconst (v := 1) hx hb dL_law_547 (by decide) ?_
  refine lv_iadd hx hb dL_law_548 ?_
  refine lv_topi (fun x_1 ex_1 => ?_)
  have qx_1 : x_1.toInt = i.toInt + 1 := zLadd ex_1 (by decide) (by decide) (by decide) hi6 hn6 hL
  refine va_sld hx hb hX hbl hbA hS (zLin qx_1 (by decide) (by decide) hi6 hn6) dL_law_549 ?_
  refine lv_topi (fun a_3 ea_3 => ?_)
  refine lv_aload_n hx hb dL_law_550 rfl (lv_at hl 3 rfl) ?_
  refine lv_iload_n hx hb dL_law_551 rfl (lv_at hl 0 rfl) ?_
  refine lv_iconst (v := 2) hx hb dL_law_552 (by decide) ?_
  refine lv_iadd hx hb dL_law_553 ?_
  refine lv_topi (fun x_4 ex_4 => ?_)
  have qx_4 : x_4.toInt = i.toInt + 2 := zLadd ex_4 (by decide) (by decide) (by decide) hi6 hn6 hL
  refine va_sld hx hb hX hbl hbA hS (zLin qx_4 (by decide) (by decide) hi6 hn6) dL_law_554 ?_
  refine lv_topi (fun a_6 ea_6 => ?_)
  skip
  refine zt_V (As := [.int a_3, .int a_6]) (rest := []) (ws := [(x0, .inr (7, [.ref xs, .ref j0, .ref k0, .ref w0, .ref rd, .ref mv, .ref xr, .int im, .int lf])), (j0, .inr (0, [.ref z0, .ref jp, .ref jc, .int cn, .int de, .int tr, .int se, .int hu, .int sd])), (jp, .inl (cP, 8, .inr (.inr (.inr (.inr fp))))), (xr, .inl (cI, 8, .inl fxr)), (zMO m0 npu nte nat_ nde nto nse nhu nga nsd nfa mrf mki mpa mta mla msl mco mhe mso msi msh mce mca mwo mnu mte nba npl nen nnu nwr mwa mke mma mth mtr nra nik), (mrf, .inl (cI, 8, .inl grf)), (mki, .inl (cI, 8, .inl gki)), (mpa, .inl (cI, 8, .inl gpa)), (mta, .inl (cI, 8, .inl gta))]) (wr := [(zMO m0 npu nte nat_ nde nto nse nhu nga nsd nfa mrf mki mpa mta mla msl mco mhe mso msi msh mce mca mwo mnu mte nba npl nen nnu nwr mwa mke mma mth mtr nra nik), (mrf, .inl (cI, 8, .inl grf)), (mki, .inl (cI, 8, .inl gki)), (mpa, .inl (cI, 8, .inl gpa)), (mta, .inl (cI, 8, .inl gta))]) ⟨hx, hb, hml, hown, hts⟩ (c_F_X_pullOf l D cI cJ cZ cP cS po x0 xs j0 k0 w0 rd mv xr (im) (lf) fxr j0 jp jc z0 0 0 (cn) (de) (tr) (se) (hu) (sd) fp kf af tf (a_3) (a_6) b_im.1 b_im.2 b_lf.1 b_lf.2 b_cn.1 b_cn.2 b_de.1 b_de.2 b_hu.1 b_hu.2 hjp H.size) (cwV 2 hts gq_53 rfl rfl rfl ⟨rfl, dh_X7_pullOf⟩ ⟨Nat.le_of_ble_eq_true rfl, Nat.le_of_ble_eq_true rfl⟩) hK hN hP hD hS hA [0, 3, 1, 2] [4, 5, 6, 7, 8] rfl rfl (by decide) (by decide) (by decide) (zE_law (isC := [0, 3, 1, 2]) hz1 hz2 hP hD hS hA rfl hpr) (va_recv (q := (RX7, TX7, 9)) hK hP (ci := 7) (q0 := 0) rfl rfl) rfl hl.1 rfl (Nat.le_of_ble_eq_true rfl) dL_law_555 ⟨zRmC hkc hn6 hL (by decide), zRmS hks hn6 hL (by decide)⟩ (fun r_7 u_8 H locs hr_7 hP hD hS => ?_)
  obtain ⟨q_9, rfl⟩ : ∃ z, z = u_8 := ⟨_, rfl⟩
  obtain ⟨hsr_7_0, hr_7⟩ := hr_7
  have h9R := zRe (ws' := ([(zMO m0 npu nte nat_ nde nto nse nhu nga nsd nfa mrf mki mpa mta mla msl mco mhe mso msi msh mce mca mwo mnu mte nba npl nen nnu nwr mwa mke mma mth mtr nra nik), (mrf, .inl (cI, 8, .inl grf)), (mki, .inl (cI, 8, .inl gki)), (mpa, .inl (cI, 8, .inl gpa)), (mta, .inl (cI, 8, .inl gta)), (x0, .inr (7, [.ref xs, .ref j0, .ref k0, .ref w0, .ref rd, .ref mv, .ref xr, .int im, .int lf])), (xr, .inl (cI, 8, .inl q_9)), (j0, .inr (0, [.ref z0, .ref jp, .ref jc, .int cn, .int de, .int tr, .int se, .int hu, .int sd])), (jp, .inl (cP, 8, .inr (.inr (.inr (.inr fp)))))] ++ (So ++ po.1.map zPo))) hP hD rfl
  clear hP hD
  obtain ⟨hP, hD⟩ := h9R
  refine lv_pop hx hb dL_law_558 rfl ?_
  refine lv_aload_n hx hb dL_law_559 rfl (lv_at hl 1 rfl) ?_
  refine lv_aload_n hx hb dL_law_560 rfl (lv_at hl 3 rfl) ?_
  refine lv_iload_n hx hb dL_law_561 rfl (lv_at hl 0 rfl) ?_
  refine lv_iconst (v := 1) hx hb dL_law_562 (by decide) ?_
  refine lv_iadd hx hb dL_law_563 ?_
  refine lv_topi (fun y_10 ey_10 => ?_)
  obtain rfl : x_1 = y_10 := ex_1.trans ey_10.symm
  refine va_sld hx hb hX hbl hbA hS (zLin qx_1 (by decide) (by decide) hi6 hn6) dL_law_564 ?_
  refine lv_topi (fun y_11 ey_11 => ?_)
  obtain rfl : a_3 = y_11 := ea_3.trans ey_11.symm
  refine lv_aload_n hx hb dL_law_565 rfl (lv_at hl 3 rfl) ?_
  refine lv_iload_n hx hb dL_law_566 rfl (lv_at hl 0 rfl) ?_
  refine lv_iconst (v := 2) hx hb dL_law_567 (by decide) ?_
  refine lv_iadd hx hb dL_law_568 ?_
  refine lv_topi (fun y_12 ey_12 => ?_)
  obtain rfl : x_4 = y_12 := ex_4.trans ey_12.symm
  refine va_sld hx hb hX hbl hbA hS (zLin qx_4 (by decide) (by decide) hi6 hn6) dL_law_569 ?_
  refine lv_topi (fun y_13 ey_13 => ?_)
  obtain rfl : a_6 = y_13 := ea_6.trans ey_13.symm
  skip
  refine zt_V (As := [.int a_3, .int a_6]) (rest := []) (ws := [(zMO m0 npu nte nat_ nde nto nse nhu nga nsd nfa mrf mki mpa mta mla msl mco mhe mso msi msh mce mca mwo mnu mte nba npl nen nnu nwr mwa mke mma mth mtr nra nik), (mrf, .inl (cI, 8, .inl grf)), (mki, .inl (cI, 8, .inl gki)), (mpa, .inl (cI, 8, .inl gpa)), (mta, .inl (cI, 8, .inl gta)), (x0, .inr (7, [.ref xs, .ref j0, .ref k0, .ref w0, .ref rd, .ref mv, .ref xr, .int im, .int lf])), (xr, .inl (cI, 8, .inl q_9)), (j0, .inr (0, [.ref z0, .ref jp, .ref jc, .int cn, .int de, .int tr, .int se, .int hu, .int sd])), (jp, .inl (cP, 8, .inr (.inr (.inr (.inr fp)))))]) (wr := [(x0, .inr (7, [.ref xs, .ref j0, .ref k0, .ref w0, .ref rd, .ref mv, .ref xr, .int im, .int lf])), (xr, .inl (cI, 8, .inl q_9)), (j0, .inr (0, [.ref z0, .ref jp, .ref jc, .int cn, .int de, .int tr, .int se, .int hu, .int sd])), (jp, .inl (cP, 8, .inr (.inr (.inr (.inr fp)))))]) ⟨hx, hb, hml, hown, hts⟩ (c_F_M_pullOf l D cI cJ cZ cP cS po m0 mrf mki mpa mta mla msl mco mhe mso msi msh mce mca mwo mnu mte mwa mke mma mth mtr (npu) (nte) (nat_) (nde) (nto) (nse) (nhu) (nga) (nsd) (nfa) (nba) (npl) (nen) (nnu) (nwr) (nra) (nik) grf gki gpa gta (a_3) (a_6) b_npu.1 b_npu.2 b_nte.1 b_nte.2 b_nat_.1 b_nat_.2 b_nde.1 b_nde.2 b_nhu.1 b_nhu.2 b_nra.1 b_nra.2 b_nik.1 b_nik.2 hp_gki hp_gpa hp_gta H.size) (cwV 2 hts gq_56 rfl rfl rfl ⟨rfl, dh_X8_pullOf⟩ ⟨Nat.le_of_ble_eq_true rfl, Nat.le_of_ble_eq_true rfl⟩) hK hN hP hD hS hA [0, 1, 2, 3, 4] [5, 6, 7, 8] rfl rfl (by decide) (by decide) (by decide) (zE_law (isC := [0, 1, 2, 3, 4]) hz1 hz2 hP hD hS hA rfl hpr) (va_recv (q := (RX8, TX8, 38)) hK hP (ci := 8) (q0 := 0) rfl rfl) rfl hl.1 rfl (Nat.le_of_ble_eq_true rfl) dL_law_570 ⟨zRmC hkc hn6 hL (by decide), zRmS hks hn6 hL (by decide)⟩ (fun r_14 u_15 H locs hr_14 hP hD hS => ?_)
  obtain ⟨q_16, rfl⟩ : ∃ z, z = u_15 := ⟨_, rfl⟩
  obtain ⟨hsr_14_0, hr_14⟩ := hr_14
  have h9R := zRe (ws' := ([(x0, .inr (7, [.ref xs, .ref j0, .ref k0, .ref w0, .ref rd, .ref mv, .ref xr, .int im, .int lf])), (xr, .inl (cI, 8, .inl q_9)), (j0, .inr (0, [.ref z0, .ref jp, .ref jc, .int cn, .int de, .int tr, .int se, .int hu, .int sd])), (jp, .inl (cP, 8, .inr (.inr (.inr (.inr fp))))), (zMO m0 npu nte nat_ nde nto nse nhu nga nsd nfa mrf mki mpa mta mla msl mco mhe mso msi msh mce mca mwo mnu mte nba npl nen nnu nwr mwa mke mma mth mtr nra nik), (mrf, .inl (cI, 8, .inl q_16)), (mki, .inl (cI, 8, .inl gki)), (mpa, .inl (cI, 8, .inl gpa)), (mta, .inl (cI, 8, .inl gta))] ++ (So ++ po.1.map zPo))) hP hD rfl
  clear hP hD
  obtain ⟨hP, hD⟩ := h9R
  have hA := zNu_pullOf hKI hNu hcn b_cn.2 hsr_7_0 hsr_14_0
  refine lv_pop hx hb dL_law_573 rfl ?_
  refine lv_goto (tgt := 1370) hx hb dL_law_574 (by decide) ?_
  exact hnx im lf cn de tr se hu sd npu nte nat_ nde nto nse nhu nga nsd nfa nba npl nen nnu nwr nra nik q_9 q_16 gki gpa gta kf af tf fp b_im b_lf b_cn b_de b_se b_hu b_npu b_nte b_nat_ b_nde b_nhu b_nra b_nik hp_gki hp_gpa hp_gta hjp hjwp hik hcn hsz him hlf hkq hT hTk hKI hKk hNu hNk _ _ (zRmN hkc) (zRmM hks) H locs (hP.part [0, 2, 3, 1, 4, 5, 6, 7, 8] rfl) (hD.part [0, 2, 3, 1, 4, 5, 6, 7, 8] (by decide +kernel) rfl) hS ls (lv_sub hl [0, 1, 2, 3] rfl)
set_option maxHeartbeats 16000000 in
set_option maxRecDepth 200000 in
theorem law_core_9 {p : Program} {l : Launch} {e : Env} {s : State} {m : MethodId} {below : List Frame} {meth : Method} {c : Code} {D : va_G} {cI cJ cZ cP cS : ClassId} {b L : Nat} {xs_ : Nat → Int32} (x0 xs j0 k0 w0 rd mv xr z0 jp jc zl zs m0 mrf mki mpa mta mla msl mco mhe mso msi msh mce mca mwo mnu mte mwa mke mma mth mtr : Nat) {So : va_W} (n nkc nks : Nat) (i : Int32) (po : zPool) (im lf cn de tr se hu sd sz at_ gp kcn kde ktr kse khu ksd ksz kat kgp npu nte nat_ nde nto nse nhu nga nsd nfa nba npl nen nnu nwr nra nik : Int32) (fzl fzs fjc fkzl fkzs fkc fxr grf gki gpa gta gla gsl gco gke kf af tf kkf kaf ktf : Nat → Int32) (fp : Nat → Option Nat) (C0 : lw_At p s m meth c b L xs_) (hK : va_K D vwCl (zKT cI cJ cZ cP cS) s) (hN : zN s) (hz1 : zSt (fun q : Nat => s.heap.size ≤ q) s s.heap) (hL : L ≤ 3072) (b_im : 0 ≤ im.toInt ∧ im.toInt ≤ 1) (b_lf : (-1) ≤ lf.toInt ∧ lf.toInt ≤ 160) (b_cn : 0 ≤ cn.toInt ∧ cn.toInt ≤ 8) (b_de : 0 ≤ de.toInt ∧ de.toInt ≤ 24) (b_se : 0 ≤ se.toInt ∧ se.toInt ≤ 300) (b_hu : 0 ≤ hu.toInt ∧ hu.toInt ≤ 9) (b_sz : 4 ≤ sz.toInt ∧ sz.toInt ≤ 40) (b_at_ : 0 ≤ at_.toInt ∧ at_.toInt ≤ 40) (b_gp : 1 ≤ gp.toInt ∧ gp.toInt ≤ 9) (b_npu : 0 ≤ npu.toInt ∧ npu.toInt ≤ 8) (b_nte : 4 ≤ nte.toInt ∧ nte.toInt ≤ 40) (b_nat_ : 0 ≤ nat_.toInt ∧ nat_.toInt ≤ 40) (b_nde : 0 ≤ nde.toInt ∧ nde.toInt ≤ 24) (b_nhu : 0 ≤ nhu.toInt ∧ nhu.toInt ≤ 9) (b_nra : 0 ≤ nra.toInt ∧ nra.toInt ≤ 2000) (b_nik : 0 ≤ nik.toInt ∧ nik.toInt ≤ 1) (hp_fzl : zRg fzl (0) 1) (hp_fzs : zRg fzs (0) 9) (hp_gla : zRg gla (0) 1) (hp_gsl : zRg gsl (0) 9) (hjp : zJP po fp cn kf af tf) (hik : (nik.toInt = 1 → zKp gke)) (hcn : cn.toInt = npu.toInt) (hsz : sz.toInt = nte.toInt) (him : im.toInt = nik.toInt) (hlf : lf.toInt = nfa.toInt) (hkq : (nik.toInt = 1 → kcn.toInt = (gke 107).toInt ∧ ksz.toInt = (gke 108).toInt)) (hT : zTt fzl fzs gla gsl gp nga) (hTk : (nik.toInt = 1 → zTk_ fkzl fkzs gke kgp)) (hKI : zTp kf af tf gki gpa gta hu nhu) (hKk : (nik.toInt = 1 → zTq kkf kaf ktf gke khu)) (hNu : zNu de at_ se tr sd fjc nde nat_ nse nto nsd gco) (hNk : (nik.toInt = 1 → zNk kde kat kse ktr ksd fkc gke)) (b_atsz : at_.toInt ≤ sz.toInt) (hz2 : zStr po (fun q : Nat => s.heap.size ≤ q) s s.heap) (hpr : ∀ z ∈ po.1, zPr z.2.1 z.2.2.1 z.2.2.2) (hkc : nkc ≤ 100 + 40 * n) (hks : nks ≤ 10000 + 120 * n) (hi6 : i.toInt = 6 * (n : Int)) (hn6 : 6 * (n : Int) + 6 ≤ (L : Int)) (H : Heap) (locs : List Loc) (hP : va_P D vwCl ([(x0, .inr (7, [.ref xs, .ref j0, .ref k0, .ref w0, .ref rd, .ref mv, .ref xr, .int im, .int lf])), (j0, .inr (0, [.ref z0, .ref jp, .ref jc, .int cn, .int de, .int tr, .int se, .int hu, .int sd])), (z0, .inr (6, [.ref zl, .ref zs, .int sz, .int at_, .int gp])), (zl, .inl (cZ, 40, .inl fzl)), (zs, .inl (cI, 40, .inl fzs)), (xr, .inl (cI, 8, .inl fxr)), (zMO m0 npu nte nat_ nde nto nse nhu nga nsd nfa mrf mki mpa mta mla msl mco mhe mso msi msh mce mca mwo mnu mte nba npl nen nnu nwr mwa mke mma mth mtr nra nik), (mrf, .inl (cI, 8, .inl grf)), (mla, .inl (cI, 40, .inl gla)), (msl, .inl (cI, 40, .inl gsl))] ++ (So ++ po.1.map zPo)) H) (hD : va_D (fun q : Nat => s.heap.size ≤ q) ([(x0, .inr (7, [.ref xs, .ref j0, .ref k0, .ref w0, .ref rd, .ref mv, .ref xr, .int im, .int lf])), (j0, .inr (0, [.ref z0, .ref jp, .ref jc, .int cn, .int de, .int tr, .int se, .int hu, .int sd])), (z0, .inr (6, [.ref zl, .ref zs, .int sz, .int at_, .int gp])), (zl, .inl (cZ, 40, .inl fzl)), (zs, .inl (cI, 40, .inl fzs)), (xr, .inl (cI, 8, .inl fxr)), (zMO m0 npu nte nat_ nde nto nse nhu nga nsd nfa mrf mki mpa mta mla msl mco mhe mso msi msh mce mca mwo mnu mte nba npl nen nnu nwr mwa mke mma mth mtr nra nik), (mrf, .inl (cI, 8, .inl grf)), (mla, .inl (cI, 40, .inl gla)), (msl, .inl (cI, 40, .inl gsl))] ++ (So ++ po.1.map zPo))) (hS : va_S (fun q : Nat => s.heap.size ≤ q) s.heap H locs) (ls : Array Slot) (hl : lv_has ls 4 [(3, .int i), (2, .ref m0), (1, .ref x0), (0, .ref b)]) (hnx : ∀ (im lf cn de tr se hu sd sz at_ gp npu nte nat_ nde nto nse nhu nga nsd nfa nba npl nen nnu nwr nra nik : Int32) (fzl fzs fxr grf gla gsl : Nat → Int32) (b_im : 0 ≤ im.toInt ∧ im.toInt ≤ 1) (b_lf : (-1) ≤ lf.toInt ∧ lf.toInt ≤ 160) (b_cn : 0 ≤ cn.toInt ∧ cn.toInt ≤ 8) (b_de : 0 ≤ de.toInt ∧ de.toInt ≤ 24) (b_se : 0 ≤ se.toInt ∧ se.toInt ≤ 300) (b_hu : 0 ≤ hu.toInt ∧ hu.toInt ≤ 9) (b_sz : 4 ≤ sz.toInt ∧ sz.toInt ≤ 40) (b_at_ : 0 ≤ at_.toInt ∧ at_.toInt ≤ 40) (b_gp : 1 ≤ gp.toInt ∧ gp.toInt ≤ 9) (b_npu : 0 ≤ npu.toInt ∧ npu.toInt ≤ 8) (b_nte : 4 ≤ nte.toInt ∧ nte.toInt ≤ 40) (b_nat_ : 0 ≤ nat_.toInt ∧ nat_.toInt ≤ 40) (b_nde : 0 ≤ nde.toInt ∧ nde.toInt ≤ 24) (b_nhu : 0 ≤ nhu.toInt ∧ nhu.toInt ≤ 9) (b_nra : 0 ≤ nra.toInt ∧ nra.toInt ≤ 2000) (b_nik : 0 ≤ nik.toInt ∧ nik.toInt ≤ 1) (hp_fzl : zRg fzl (0) 1) (hp_fzs : zRg fzs (0) 9) (hp_gla : zRg gla (0) 1) (hp_gsl : zRg gsl (0) 9) (hjp : zJP po fp cn kf af tf) (hik : (nik.toInt = 1 → zKp gke)) (hcn : cn.toInt = npu.toInt) (hsz : sz.toInt = nte.toInt) (him : im.toInt = nik.toInt) (hlf : lf.toInt = nfa.toInt) (hkq : (nik.toInt = 1 → kcn.toInt = (gke 107).toInt ∧ ksz.toInt = (gke 108).toInt)) (hT : zTt fzl fzs gla gsl gp nga) (hTk : (nik.toInt = 1 → zTk_ fkzl fkzs gke kgp)) (hKI : zTp kf af tf gki gpa gta hu nhu) (hKk : (nik.toInt = 1 → zTq kkf kaf ktf gke khu)) (hNu : zNu de at_ se tr sd fjc nde nat_ nse nto nsd gco) (hNk : (nik.toInt = 1 → zNk kde kat kse ktr ksd fkc gke)) (b_atsz : at_.toInt ≤ sz.toInt) (nkc nks : Nat) (hkc : nkc ≤ 100 + 40 * (n + 1)) (hks : nks ≤ 10000 + 120 * (n + 1)) (H : Heap) (locs : List Loc) (hP : va_P D vwCl ([(x0, .inr (7, [.ref xs, .ref j0, .ref k0, .ref w0, .ref rd, .ref mv, .ref xr, .int im, .int lf])), (j0, .inr (0, [.ref z0, .ref jp, .ref jc, .int cn, .int de, .int tr, .int se, .int hu, .int sd])), (z0, .inr (6, [.ref zl, .ref zs, .int sz, .int at_, .int gp])), (zl, .inl (cZ, 40, .inl fzl)), (zs, .inl (cI, 40, .inl fzs)), (xr, .inl (cI, 8, .inl fxr)), (zMO m0 npu nte nat_ nde nto nse nhu nga nsd nfa mrf mki mpa mta mla msl mco mhe mso msi msh mce mca mwo mnu mte nba npl nen nnu nwr mwa mke mma mth mtr nra nik), (mrf, .inl (cI, 8, .inl grf)), (mla, .inl (cI, 40, .inl gla)), (msl, .inl (cI, 40, .inl gsl))] ++ (So ++ po.1.map zPo)) H) (hD : va_D (fun q : Nat => s.heap.size ≤ q) ([(x0, .inr (7, [.ref xs, .ref j0, .ref k0, .ref w0, .ref rd, .ref mv, .ref xr, .int im, .int lf])), (j0, .inr (0, [.ref z0, .ref jp, .ref jc, .int cn, .int de, .int tr, .int se, .int hu, .int sd])), (z0, .inr (6, [.ref zl, .ref zs, .int sz, .int at_, .int gp])), (zl, .inl (cZ, 40, .inl fzl)), (zs, .inl (cI, 40, .inl fzs)), (xr, .inl (cI, 8, .inl fxr)), (zMO m0 npu nte nat_ nde nto nse nhu nga nsd nfa mrf mki mpa mta mla msl mco mhe mso msi msh mce mca mwo mnu mte nba npl nen nnu nwr mwa mke mma mth mtr nra nik), (mrf, .inl (cI, 8, .inl grf)), (mla, .inl (cI, 40, .inl gla)), (msl, .inl (cI, 40, .inl gsl))] ++ (So ++ po.1.map zPo))) (hS : va_S (fun q : Nat => s.heap.size ≤ q) s.heap H locs) (ls : Array Slot) (hl : lv_has ls 4 [(3, .int i), (2, .ref m0), (1, .ref x0), (0, .ref b)]), W p l e room_1 s m #[Value.ref b] below meth c H locs nkc nks (lw_Z below #[Value.ref b] s) (F0 m 1370 ls [])) : W p l e room_1 s m #[Value.ref b] below meth c H locs nkc nks (lw_Z below #[Value.ref b] s) (F0 m 577 ls []) := by
  obtain ⟨hx, hb, hr, hml, hown0, hts, hX, hbl, hlocks, hgv⟩ := id C0
  have hown : s.vm.findClass RL = some m.cls := hown0
  have hA : ∀ q : Nat, s.heap.size ≤ q → (fun q : Nat => s.heap.size ≤ q) q := fun _ h => h
  have hbA : ¬ (fun q : Nat => s.heap.size ≤ q) b := Nat.not_le.mpr hbl
  have hga9 : 1 ≤ nga.toInt ∧ nga.toInt ≤ 9 := by (have z := hT.2.2; omega)
  obtain ⟨hNa, hNb, hNc, -⟩ := id hNu
  refine lv_aload_n hx hb dL_law_577 rfl (lv_at hl 2 rfl) ?_
  refine lv_aload_n hx hb dL_law_578 rfl (lv_at hl 3 rfl) ?_
  refine lv_iload_n hx hb dL_law_579 rfl (lv_at hl 0 rfl) ?_
  refine lv_iconst (v := 1) hx hb dL_law_580 (by decide) ?_
  refine lv_iadd hx hb dL_law_581 ?_
  refine lv_topi (fun x_1 ex_1 => ?_)
  have qx_1 : x_1.toInt = i.toInt + 1 := zLadd ex_1 (by decide) (by decide) (by decide) hi6 hn6 hL
  refine va_sld hx hb hX hbl hbA hS (zLin qx_1 (by decide) (by decide) hi6 hn6) dL_law_582 ?_
  refine lv_topi (fun a_3 ea_3 => ?_)
  skip
  refine zt_V (As := [.int a_3]) (rest := []) (ws := [(x0, .inr (7, [.ref xs, .ref j0, .ref k0, .ref w0, .ref rd, .ref mv, .ref xr, .int im, .int lf])), (j0, .inr (0, [.ref z0, .ref jp, .ref jc, .int cn, .int de, .int tr, .int se, .int hu, .int sd])), (z0, .inr (6, [.ref zl, .ref zs, .int sz, .int at_, .int gp])), (zl, .inl (cZ, 40, .inl fzl)), (zs, .inl (cI, 40, .inl fzs)), (xr, .inl (cI, 8, .inl fxr)), (zMO m0 npu nte nat_ nde nto nse nhu nga nsd nfa mrf mki mpa mta mla msl mco mhe mso msi msh mce mca mwo mnu mte nba npl nen nnu nwr mwa mke mma mth mtr nra nik), (mrf, .inl (cI, 8, .inl grf)), (mla, .inl (cI, 40, .inl gla)), (msl, .inl (cI, 40, .inl gsl))]) (wr := [(zMO m0 npu nte nat_ nde nto nse nhu nga nsd nfa mrf mki mpa mta mla msl mco mhe mso msi msh mce mca mwo mnu mte nba npl nen nnu nwr mwa mke mma mth mtr nra nik), (mrf, .inl (cI, 8, .inl grf)), (mla, .inl (cI, 40, .inl gla)), (msl, .inl (cI, 40, .inl gsl))]) ⟨hx, hb, hml, hown, hts⟩ (c_F_X_teeth l D cI cJ cZ cP cS po x0 xs j0 k0 w0 rd mv xr (im) (lf) fxr j0 jp jc z0 zl zs (cn) (de) (tr) (se) (hu) (sd) (sz) (at_) (gp) fzl fzs (a_3) b_im.1 b_im.2 b_lf.1 b_lf.2 b_cn.1 b_cn.2 b_de.1 b_de.2 b_hu.1 b_hu.2 b_sz.1 b_sz.2 b_at_.1 b_at_.2 b_gp.1 b_gp.2 hp_fzl hp_fzs H.size) (cwV 1 hts gq_57 rfl rfl rfl ⟨rfl, dh_X7_teeth⟩ ⟨Nat.le_of_ble_eq_true rfl, Nat.le_of_ble_eq_true rfl⟩) hK hN hP hD hS hA [0, 5, 1, 2, 3, 4] [6, 7, 8, 9] rfl rfl (by decide) (by decide) (by decide) (zE_law (isC := [0, 5, 1, 2, 3, 4]) hz1 hz2 hP hD hS hA rfl hpr) (va_recv (q := (RX7, TX7, 9)) hK hP (ci := 7) (q0 := 0) rfl rfl) rfl hl.1 rfl (Nat.le_of_ble_eq_true rfl) dL_law_583 ⟨zRmC hkc hn6 hL (by decide), zRmS hks hn6 hL (by decide)⟩ (fun r_4 u_5 H locs hr_4 hP hD hS => ?_)
  obtain ⟨q_6, q_7, q_8, q_9, q_10⟩ := u_5
  try dsimp only at hr_4
  obtain ⟨hbq_6, hbq_7, hpq_8, hpq_9, hsr_4_0, hsr_4_1, hr_4⟩ := hr_4
  have h9R := zRe (ws' := ([(zMO m0 npu nte nat_ nde nto nse nhu nga nsd nfa mrf mki mpa mta mla msl mco mhe mso msi msh mce mca mwo mnu mte nba npl nen nnu nwr mwa mke mma mth mtr nra nik), (mrf, .inl (cI, 8, .inl grf)), (mla, .inl (cI, 40, .inl gla)), (msl, .inl (cI, 40, .inl gsl)), (x0, .inr (7, [.ref xs, .ref j0, .ref k0, .ref w0, .ref rd, .ref mv, .ref xr, .int im, .int lf])), (xr, .inl (cI, 8, .inl q_10)), (j0, .inr (0, [.ref z0, .ref jp, .ref jc, .int cn, .int de, .int tr, .int se, .int hu, .int sd])), (z0, .inr (6, [.ref zl, .ref zs, .int q_6, .int q_7, .int gp])), (zl, .inl (cZ, 40, .inl q_8)), (zs, .inl (cI, 40, .inl q_9))] ++ (So ++ po.1.map zPo))) hP hD rfl
  clear hP hD
  obtain ⟨hP, hD⟩ := h9R
  refine lv_pop hx hb dL_law_586 rfl ?_
  refine lv_aload_n hx hb dL_law_587 rfl (lv_at hl 1 rfl) ?_
  refine lv_aload_n hx hb dL_law_588 rfl (lv_at hl 3 rfl) ?_
  refine lv_iload_n hx hb dL_law_589 rfl (lv_at hl 0 rfl) ?_
  refine lv_iconst (v := 1) hx hb dL_law_590 (by decide) ?_
  refine lv_iadd hx hb dL_law_591 ?_
  refine lv_topi (fun y_11 ey_11 => ?_)
  obtain rfl : x_1 = y_11 := ex_1.trans ey_11.symm
  refine va_sld hx hb hX hbl hbA hS (zLin qx_1 (by decide) (by decide) hi6 hn6) dL_law_592 ?_
  refine lv_topi (fun y_12 ey_12 => ?_)
  obtain rfl : a_3 = y_12 := ea_3.trans ey_12.symm
  skip
  refine zt_V (As := [.int a_3]) (rest := []) (ws := [(zMO m0 npu nte nat_ nde nto nse nhu nga nsd nfa mrf mki mpa mta mla msl mco mhe mso msi msh mce mca mwo mnu mte nba npl nen nnu nwr mwa mke mma mth mtr nra nik), (mrf, .inl (cI, 8, .inl grf)), (mla, .inl (cI, 40, .inl gla)), (msl, .inl (cI, 40, .inl gsl)), (x0, .inr (7, [.ref xs, .ref j0, .ref k0, .ref w0, .ref rd, .ref mv, .ref xr, .int im, .int lf])), (xr, .inl (cI, 8, .inl q_10)), (j0, .inr (0, [.ref z0, .ref jp, .ref jc, .int cn, .int de, .int tr, .int se, .int hu, .int sd])), (z0, .inr (6, [.ref zl, .ref zs, .int q_6, .int q_7, .int gp])), (zl, .inl (cZ, 40, .inl q_8)), (zs, .inl (cI, 40, .inl q_9))]) (wr := [(x0, .inr (7, [.ref xs, .ref j0, .ref k0, .ref w0, .ref rd, .ref mv, .ref xr, .int im, .int lf])), (xr, .inl (cI, 8, .inl q_10)), (j0, .inr (0, [.ref z0, .ref jp, .ref jc, .int cn, .int de, .int tr, .int se, .int hu, .int sd])), (z0, .inr (6, [.ref zl, .ref zs, .int q_6, .int q_7, .int gp])), (zl, .inl (cZ, 40, .inl q_8)), (zs, .inl (cI, 40, .inl q_9))]) ⟨hx, hb, hml, hown, hts⟩ (c_F_M_teeth l D cI cJ cZ cP cS po m0 mrf mki mpa mta mla msl mco mhe mso msi msh mce mca mwo mnu mte mwa mke mma mth mtr (npu) (nte) (nat_) (nde) (nto) (nse) (nhu) (nga) (nsd) (nfa) (nba) (npl) (nen) (nnu) (nwr) (nra) (nik) grf gla gsl (a_3) b_npu.1 b_npu.2 b_nte.1 b_nte.2 b_nat_.1 b_nat_.2 b_nde.1 b_nde.2 b_nhu.1 b_nhu.2 b_nra.1 b_nra.2 b_nik.1 b_nik.2 hp_gla hp_gsl H.size) (cwV 1 hts gq_60 rfl rfl rfl ⟨rfl, dh_X8_teeth⟩ ⟨Nat.le_of_ble_eq_true rfl, Nat.le_of_ble_eq_true rfl⟩) hK hN hP hD hS hA [0, 1, 2, 3] [4, 5, 6, 7, 8, 9] rfl rfl (by decide) (by decide) (by decide) (zE_law (isC := [0, 1, 2, 3]) hz1 hz2 hP hD hS hA rfl hpr) (va_recv (q := (RX8, TX8, 38)) hK hP (ci := 8) (q0 := 0) rfl rfl) rfl hl.1 rfl (Nat.le_of_ble_eq_true rfl) dL_law_593 ⟨zRmC hkc hn6 hL (by decide), zRmS hks hn6 hL (by decide)⟩ (fun r_13 u_14 H locs hr_13 hP hD hS => ?_)
  obtain ⟨q_15, q_16, q_17, q_18, q_19⟩ := u_14
  try dsimp only at hr_13
  obtain ⟨hbq_15, hbq_16, hpq_18, hpq_19, hsr_13_0, hsr_13_1, hr_13⟩ := hr_13
  have h9R := zRe (ws' := ([(x0, .inr (7, [.ref xs, .ref j0, .ref k0, .ref w0, .ref rd, .ref mv, .ref xr, .int im, .int lf])), (xr, .inl (cI, 8, .inl q_10)), (j0, .inr (0, [.ref z0, .ref jp, .ref jc, .int cn, .int de, .int tr, .int se, .int hu, .int sd])), (z0, .inr (6, [.ref zl, .ref zs, .int q_6, .int q_7, .int gp])), (zl, .inl (cZ, 40, .inl q_8)), (zs, .inl (cI, 40, .inl q_9)), (zMO m0 npu q_15 q_16 nde nto nse nhu nga nsd nfa mrf mki mpa mta mla msl mco mhe mso msi msh mce mca mwo mnu mte nba npl nen nnu nwr mwa mke mma mth mtr nra nik), (mrf, .inl (cI, 8, .inl q_17)), (mla, .inl (cI, 40, .inl q_18)), (msl, .inl (cI, 40, .inl q_19))] ++ (So ++ po.1.map zPo))) hP hD rfl
  clear hP hD
  obtain ⟨hP, hD⟩ := h9R
  have hA : r_4.toInt = r_13.toInt := by (have z1 := hsr_4_0; have z2 := hsr_13_0; omega)
  have hT9 := zTt_teeth hT hsr_4_1 hsr_13_1
  obtain ⟨hV9, hat9⟩ := zNu_teeth hNu b_atsz hsr_4_0 hsr_4_1 hsr_13_1
  refine lv_pop hx hb dL_law_596 rfl ?_
  refine lv_goto (tgt := 1370) hx hb dL_law_597 (by decide) ?_
  exact hnx im lf cn de tr se hu sd q_6 q_7 gp npu q_15 q_16 nde nto nse nhu nga nsd nfa nba npl nen nnu nwr nra nik q_8 q_9 q_10 q_17 q_18 q_19 b_im b_lf b_cn b_de b_se b_hu hbq_6 hbq_7 b_gp b_npu hbq_15 hbq_16 b_nde b_nhu b_nra b_nik hpq_8 hpq_9 hpq_18 hpq_19 hjp hik hcn (by omega) him hlf hkq hT9 hTk hKI hKk hV9 hNk (by omega) _ _ (zRmN hkc) (zRmM hks) H locs (hP.part [0, 2, 3, 4, 5, 1, 6, 7, 8, 9] rfl) (hD.part [0, 2, 3, 4, 5, 1, 6, 7, 8, 9] (by decide +kernel) rfl) hS ls (lv_sub hl [0, 1, 2, 3] rfl)
set_option maxHeartbeats 16000000 in
set_option maxRecDepth 200000 in
theorem law_core_10 {p : Program} {l : Launch} {e : Env} {s : State} {m : MethodId} {below : List Frame} {meth : Method} {c : Code} {D : va_G} {cI cJ cZ cP cS : ClassId} {b L : Nat} {xs_ : Nat → Int32} (x0 xs j0 k0 w0 rd mv xr z0 jp jc zl zs m0 mrf mki mpa mta mla msl mco mhe mso msi msh mce mca mwo mnu mte mwa mke mma mth mtr : Nat) {So : va_W} (n nkc nks : Nat) (i : Int32) (po : zPool) (im lf cn de tr se hu sd sz at_ gp kcn kde ktr kse khu ksd ksz kat kgp npu nte nat_ nde nto nse nhu nga nsd nfa nba npl nen nnu nwr nra nik : Int32) (fzl fzs fjc fkzl fkzs fkc fxr grf gki gpa gta gla gsl gco gke kf af tf kkf kaf ktf : Nat → Int32) (fp : Nat → Option Nat) (C0 : lw_At p s m meth c b L xs_) (hK : va_K D vwCl (zKT cI cJ cZ cP cS) s) (hN : zN s) (hz1 : zSt (fun q : Nat => s.heap.size ≤ q) s s.heap) (hL : L ≤ 3072) (b_im : 0 ≤ im.toInt ∧ im.toInt ≤ 1) (b_lf : (-1) ≤ lf.toInt ∧ lf.toInt ≤ 160) (b_cn : 0 ≤ cn.toInt ∧ cn.toInt ≤ 8) (b_de : 0 ≤ de.toInt ∧ de.toInt ≤ 24) (b_se : 0 ≤ se.toInt ∧ se.toInt ≤ 300) (b_hu : 0 ≤ hu.toInt ∧ hu.toInt ≤ 9) (b_sz : 4 ≤ sz.toInt ∧ sz.toInt ≤ 40) (b_at_ : 0 ≤ at_.toInt ∧ at_.toInt ≤ 40) (b_gp : 1 ≤ gp.toInt ∧ gp.toInt ≤ 9) (b_npu : 0 ≤ npu.toInt ∧ npu.toInt ≤ 8) (b_nte : 4 ≤ nte.toInt ∧ nte.toInt ≤ 40) (b_nat_ : 0 ≤ nat_.toInt ∧ nat_.toInt ≤ 40) (b_nde : 0 ≤ nde.toInt ∧ nde.toInt ≤ 24) (b_nhu : 0 ≤ nhu.toInt ∧ nhu.toInt ≤ 9) (b_nra : 0 ≤ nra.toInt ∧ nra.toInt ≤ 2000) (b_nik : 0 ≤ nik.toInt ∧ nik.toInt ≤ 1) (hp_fzl : zRg fzl (0) 1) (hp_gla : zRg gla (0) 1) (hjp : zJP po fp cn kf af tf) (hik : (nik.toInt = 1 → zKp gke)) (hcn : cn.toInt = npu.toInt) (hsz : sz.toInt = nte.toInt) (him : im.toInt = nik.toInt) (hlf : lf.toInt = nfa.toInt) (hkq : (nik.toInt = 1 → kcn.toInt = (gke 107).toInt ∧ ksz.toInt = (gke 108).toInt)) (hT : zTt fzl fzs gla gsl gp nga) (hTk : (nik.toInt = 1 → zTk_ fkzl fkzs gke kgp)) (hKI : zTp kf af tf gki gpa gta hu nhu) (hKk : (nik.toInt = 1 → zTq kkf kaf ktf gke khu)) (hNu : zNu de at_ se tr sd fjc nde nat_ nse nto nsd gco) (hNk : (nik.toInt = 1 → zNk kde kat kse ktr ksd fkc gke)) (b_atsz : at_.toInt ≤ sz.toInt) (hz2 : zStr po (fun q : Nat => s.heap.size ≤ q) s s.heap) (hpr : ∀ z ∈ po.1, zPr z.2.1 z.2.2.1 z.2.2.2) (hkc : nkc ≤ 100 + 40 * n) (hks : nks ≤ 10000 + 120 * n) (hi6 : i.toInt = 6 * (n : Int)) (hn6 : 6 * (n : Int) + 6 ≤ (L : Int)) (H : Heap) (locs : List Loc) (hP : va_P D vwCl ([(x0, .inr (7, [.ref xs, .ref j0, .ref k0, .ref w0, .ref rd, .ref mv, .ref xr, .int im, .int lf])), (j0, .inr (0, [.ref z0, .ref jp, .ref jc, .int cn, .int de, .int tr, .int se, .int hu, .int sd])), (z0, .inr (6, [.ref zl, .ref zs, .int sz, .int at_, .int gp])), (zl, .inl (cZ, 40, .inl fzl)), (xr, .inl (cI, 8, .inl fxr)), (zMO m0 npu nte nat_ nde nto nse nhu nga nsd nfa mrf mki mpa mta mla msl mco mhe mso msi msh mce mca mwo mnu mte nba npl nen nnu nwr mwa mke mma mth mtr nra nik), (mrf, .inl (cI, 8, .inl grf)), (mla, .inl (cI, 40, .inl gla))] ++ (So ++ po.1.map zPo)) H) (hD : va_D (fun q : Nat => s.heap.size ≤ q) ([(x0, .inr (7, [.ref xs, .ref j0, .ref k0, .ref w0, .ref rd, .ref mv, .ref xr, .int im, .int lf])), (j0, .inr (0, [.ref z0, .ref jp, .ref jc, .int cn, .int de, .int tr, .int se, .int hu, .int sd])), (z0, .inr (6, [.ref zl, .ref zs, .int sz, .int at_, .int gp])), (zl, .inl (cZ, 40, .inl fzl)), (xr, .inl (cI, 8, .inl fxr)), (zMO m0 npu nte nat_ nde nto nse nhu nga nsd nfa mrf mki mpa mta mla msl mco mhe mso msi msh mce mca mwo mnu mte nba npl nen nnu nwr mwa mke mma mth mtr nra nik), (mrf, .inl (cI, 8, .inl grf)), (mla, .inl (cI, 40, .inl gla))] ++ (So ++ po.1.map zPo))) (hS : va_S (fun q : Nat => s.heap.size ≤ q) s.heap H locs) (ls : Array Slot) (hl : lv_has ls 4 [(3, .int i), (2, .ref m0), (1, .ref x0), (0, .ref b)]) (hnx : ∀ (im lf cn de tr se hu sd sz at_ gp npu nte nat_ nde nto nse nhu nga nsd nfa nba npl nen nnu nwr nra nik : Int32) (fzl fxr grf gla : Nat → Int32) (b_im : 0 ≤ im.toInt ∧ im.toInt ≤ 1) (b_lf : (-1) ≤ lf.toInt ∧ lf.toInt ≤ 160) (b_cn : 0 ≤ cn.toInt ∧ cn.toInt ≤ 8) (b_de : 0 ≤ de.toInt ∧ de.toInt ≤ 24) (b_se : 0 ≤ se.toInt ∧ se.toInt ≤ 300) (b_hu : 0 ≤ hu.toInt ∧ hu.toInt ≤ 9) (b_sz : 4 ≤ sz.toInt ∧ sz.toInt ≤ 40) (b_at_ : 0 ≤ at_.toInt ∧ at_.toInt ≤ 40) (b_gp : 1 ≤ gp.toInt ∧ gp.toInt ≤ 9) (b_npu : 0 ≤ npu.toInt ∧ npu.toInt ≤ 8) (b_nte : 4 ≤ nte.toInt ∧ nte.toInt ≤ 40) (b_nat_ : 0 ≤ nat_.toInt ∧ nat_.toInt ≤ 40) (b_nde : 0 ≤ nde.toInt ∧ nde.toInt ≤ 24) (b_nhu : 0 ≤ nhu.toInt ∧ nhu.toInt ≤ 9) (b_nra : 0 ≤ nra.toInt ∧ nra.toInt ≤ 2000) (b_nik : 0 ≤ nik.toInt ∧ nik.toInt ≤ 1) (hp_fzl : zRg fzl (0) 1) (hp_gla : zRg gla (0) 1) (hjp : zJP po fp cn kf af tf) (hik : (nik.toInt = 1 → zKp gke)) (hcn : cn.toInt = npu.toInt) (hsz : sz.toInt = nte.toInt) (him : im.toInt = nik.toInt) (hlf : lf.toInt = nfa.toInt) (hkq : (nik.toInt = 1 → kcn.toInt = (gke 107).toInt ∧ ksz.toInt = (gke 108).toInt)) (hT : zTt fzl fzs gla gsl gp nga) (hTk : (nik.toInt = 1 → zTk_ fkzl fkzs gke kgp)) (hKI : zTp kf af tf gki gpa gta hu nhu) (hKk : (nik.toInt = 1 → zTq kkf kaf ktf gke khu)) (hNu : zNu de at_ se tr sd fjc nde nat_ nse nto nsd gco) (hNk : (nik.toInt = 1 → zNk kde kat kse ktr ksd fkc gke)) (b_atsz : at_.toInt ≤ sz.toInt) (nkc nks : Nat) (hkc : nkc ≤ 100 + 40 * (n + 1)) (hks : nks ≤ 10000 + 120 * (n + 1)) (H : Heap) (locs : List Loc) (hP : va_P D vwCl ([(x0, .inr (7, [.ref xs, .ref j0, .ref k0, .ref w0, .ref rd, .ref mv, .ref xr, .int im, .int lf])), (j0, .inr (0, [.ref z0, .ref jp, .ref jc, .int cn, .int de, .int tr, .int se, .int hu, .int sd])), (z0, .inr (6, [.ref zl, .ref zs, .int sz, .int at_, .int gp])), (zl, .inl (cZ, 40, .inl fzl)), (xr, .inl (cI, 8, .inl fxr)), (zMO m0 npu nte nat_ nde nto nse nhu nga nsd nfa mrf mki mpa mta mla msl mco mhe mso msi msh mce mca mwo mnu mte nba npl nen nnu nwr mwa mke mma mth mtr nra nik), (mrf, .inl (cI, 8, .inl grf)), (mla, .inl (cI, 40, .inl gla))] ++ (So ++ po.1.map zPo)) H) (hD : va_D (fun q : Nat => s.heap.size ≤ q) ([(x0, .inr (7, [.ref xs, .ref j0, .ref k0, .ref w0, .ref rd, .ref mv, .ref xr, .int im, .int lf])), (j0, .inr (0, [.ref z0, .ref jp, .ref jc, .int cn, .int de, .int tr, .int se, .int hu, .int sd])), (z0, .inr (6, [.ref zl, .ref zs, .int sz, .int at_, .int gp])), (zl, .inl (cZ, 40, .inl fzl)), (xr, .inl (cI, 8, .inl fxr)), (zMO m0 npu nte nat_ nde nto nse nhu nga nsd nfa mrf mki mpa mta mla msl mco mhe mso msi msh mce mca mwo mnu mte nba npl nen nnu nwr mwa mke mma mth mtr nra nik), (mrf, .inl (cI, 8, .inl grf)), (mla, .inl (cI, 40, .inl gla))] ++ (So ++ po.1.map zPo))) (hS : va_S (fun q : Nat => s.heap.size ≤ q) s.heap H locs) (ls : Array Slot) (hl : lv_has ls 4 [(3, .int i), (2, .ref m0), (1, .ref x0), (0, .ref b)]), W p l e room_1 s m #[Value.ref b] below meth c H locs nkc nks (lw_Z below #[Value.ref b] s) (F0 m 1370 ls [])) : W p l e room_1 s m #[Value.ref b] below meth c H locs nkc nks (lw_Z below #[Value.ref b] s) (F0 m 600 ls []) := by
  obtain ⟨hx, hb, hr, hml, hown0, hts, hX, hbl, hlocks, hgv⟩ := id C0
  have hown : s.vm.findClass RL = some m.cls := hown0
  have hA : ∀ q : Nat, s.heap.size ≤ q → (fun q : Nat => s.heap.size ≤ q) q := fun _ h => h
  have hbA : ¬ (fun q : Nat => s.heap.size ≤ q) b := Nat.not_le.mpr hbl
  have hga9 : 1 ≤ nga.toInt ∧ nga.toInt ≤ 9 := by (have z := hT.2.2; omega)
  obtain ⟨hNa, hNb, hNc, -⟩ := id hNu
  refine lv_aload_n hx hb dL_law_600 rfl (lv_at hl 2 rfl) ?_
  refine lv_aload_n hx hb dL_law_601 rfl (lv_at hl 3 rfl) ?_
  refine lv_iload_n hx hb dL_law_602 rfl (lv_at hl 0 rfl) ?_
  refine lv_iconst (v := 1) hx hb dL_law_603 (by decide) ?_
  refine lv_iadd hx hb dL_law_604 ?_
  refine lv_topi (fun x_1 ex_1 => ?_)
  have qx_1 : x_1.toInt = i.toInt + 1 := zLadd ex_1 (by decide) (by decide) (by decide) hi6 hn6 hL
  refine va_sld hx hb hX hbl hbA hS (zLin qx_1 (by decide) (by decide) hi6 hn6) dL_law_605 ?_
  refine lv_topi (fun a_3 ea_3 => ?_)
  refine lv_aload_n hx hb dL_law_606 rfl (lv_at hl 3 rfl) ?_
  refine lv_iload_n hx hb dL_law_607 rfl (lv_at hl 0 rfl) ?_
  refine lv_iconst (v := 2) hx hb dL_law_608 (by decide) ?_
  refine lv_iadd hx hb dL_law_609 ?_
  refine lv_topi (fun x_4 ex_4 => ?_)
  have qx_4 : x_4.toInt = i.toInt + 2 := zLadd ex_4 (by decide) (by decide) (by decide) hi6 hn6 hL
  refine va_sld hx hb hX hbl hbA hS (zLin qx_4 (by decide) (by decide) hi6 hn6) dL_law_610 ?_
  refine lv_topi (fun a_6 ea_6 => ?_)
  refine lv_if_eq (tgt := 618) hx hb dL_law_611 (by decide) (fun c_7 => ?_) (fun c_7 => ?_)
  · have fc_7 : a_6.toInt = 0 := zf_eq c_7 rfl (by decide)
    refine lv_iconst (v := 0) hx hb dL_law_618 (by decide) ?_
    have kc0 : (0 : Int32).toInt = 0 := by decide
    skip
    refine zt_V (As := [.int a_3, .int 0]) (rest := []) (ws := [(x0, .inr (7, [.ref xs, .ref j0, .ref k0, .ref w0, .ref rd, .ref mv, .ref xr, .int im, .int lf])), (j0, .inr (0, [.ref z0, .ref jp, .ref jc, .int cn, .int de, .int tr, .int se, .int hu, .int sd])), (z0, .inr (6, [.ref zl, .ref zs, .int sz, .int at_, .int gp])), (zl, .inl (cZ, 40, .inl fzl)), (xr, .inl (cI, 8, .inl fxr)), (zMO m0 npu nte nat_ nde nto nse nhu nga nsd nfa mrf mki mpa mta mla msl mco mhe mso msi msh mce mca mwo mnu mte nba npl nen nnu nwr mwa mke mma mth mtr nra nik), (mrf, .inl (cI, 8, .inl grf)), (mla, .inl (cI, 40, .inl gla))]) (wr := [(zMO m0 npu nte nat_ nde nto nse nhu nga nsd nfa mrf mki mpa mta mla msl mco mhe mso msi msh mce mca mwo mnu mte nba npl nen nnu nwr mwa mke mma mth mtr nra nik), (mrf, .inl (cI, 8, .inl grf)), (mla, .inl (cI, 40, .inl gla))]) ⟨hx, hb, hml, hown, hts⟩ (c_F_X_lack l D cI cJ cZ cP cS po x0 xs j0 k0 w0 rd mv xr (im) (lf) fxr j0 jp jc z0 zl zs (cn) (de) (tr) (se) (hu) (sd) (sz) (at_) (gp) fzl ((fun _ => 0)) (a_3) (0) b_im.1 b_im.2 b_lf.1 b_lf.2 b_cn.1 b_cn.2 b_de.1 b_de.2 b_hu.1 b_hu.2 b_sz.1 b_sz.2 b_at_.1 b_at_.2 b_gp.1 b_gp.2 (by omega) (by omega) hp_fzl H.size) (cwV 2 hts gq_61 rfl rfl rfl ⟨rfl, dh_X7_lack⟩ ⟨Nat.le_of_ble_eq_true rfl, Nat.le_of_ble_eq_true rfl⟩) hK hN hP hD hS hA [0, 4, 1, 2, 3] [5, 6, 7] rfl rfl (by decide) (by decide) (by decide) (zE_law (isC := [0, 4, 1, 2, 3]) hz1 hz2 hP hD hS hA rfl hpr) (va_recv (q := (RX7, TX7, 9)) hK hP (ci := 7) (q0 := 0) rfl rfl) rfl hl.1 rfl (Nat.le_of_ble_eq_true rfl) dL_law_619 ⟨zRmC hkc hn6 hL (by decide), zRmS hks hn6 hL (by decide)⟩ (fun r_8 u_9 H locs hr_8 hP hD hS => ?_)
    obtain ⟨q_10, q_11⟩ := u_9
    try dsimp only at hr_8
    obtain ⟨hpq_10, hsr_8_0, hr_8⟩ := hr_8
    have h9R := zRe (ws' := ([(zMO m0 npu nte nat_ nde nto nse nhu nga nsd nfa mrf mki mpa mta mla msl mco mhe mso msi msh mce mca mwo mnu mte nba npl nen nnu nwr mwa mke mma mth mtr nra nik), (mrf, .inl (cI, 8, .inl grf)), (mla, .inl (cI, 40, .inl gla)), (x0, .inr (7, [.ref xs, .ref j0, .ref k0, .ref w0, .ref rd, .ref mv, .ref xr, .int im, .int lf])), (xr, .inl (cI, 8, .inl q_11)), (j0, .inr (0, [.ref z0, .ref jp, .ref jc, .int cn, .int de, .int tr, .int se, .int hu, .int sd])), (z0, .inr (6, [.ref zl, .ref zs, .int sz, .int at_, .int gp])), (zl, .inl (cZ, 40, .inl q_10))] ++ (So ++ po.1.map zPo))) hP hD rfl
    clear hP hD
    obtain ⟨hP, hD⟩ := h9R
    refine lv_pop hx hb dL_law_622 rfl ?_
    refine lv_aload_n hx hb dL_law_623 rfl (lv_at hl 1 rfl) ?_
    refine lv_aload_n hx hb dL_law_624 rfl (lv_at hl 3 rfl) ?_
    refine lv_iload_n hx hb dL_law_625 rfl (lv_at hl 0 rfl) ?_
    refine lv_iconst (v := 1) hx hb dL_law_626 (by decide) ?_
    refine lv_iadd hx hb dL_law_627 ?_
    refine lv_topi (fun y_12 ey_12 => ?_)
    obtain rfl : x_1 = y_12 := ex_1.trans ey_12.symm
    refine va_sld hx hb hX hbl hbA hS (zLin qx_1 (by decide) (by decide) hi6 hn6) dL_law_628 ?_
    refine lv_topi (fun y_13 ey_13 => ?_)
    obtain rfl : a_3 = y_13 := ea_3.trans ey_13.symm
    refine lv_aload_n hx hb dL_law_629 rfl (lv_at hl 3 rfl) ?_
    refine lv_iload_n hx hb dL_law_630 rfl (lv_at hl 0 rfl) ?_
    refine lv_iconst (v := 2) hx hb dL_law_631 (by decide) ?_
    refine lv_iadd hx hb dL_law_632 ?_
    refine lv_topi (fun y_14 ey_14 => ?_)
    obtain rfl : x_4 = y_14 := ex_4.trans ey_14.symm
    refine va_sld hx hb hX hbl hbA hS (zLin qx_4 (by decide) (by decide) hi6 hn6) dL_law_633 ?_
    refine lv_topi (fun y_15 ey_15 => ?_)
    obtain rfl : a_6 = y_15 := ea_6.trans ey_15.symm
    refine lv_if_eq (tgt := 641) hx hb dL_law_634 (by decide) (fun c_16 => ?_) (fun c_16 => ?_)
    · have fc_16 : a_6.toInt = 0 := zf_eq c_16 rfl (by decide)
      refine lv_iconst (v := 0) hx hb dL_law_641 (by decide) ?_
      skip
      refine zt_V (As := [.int a_3, .int 0]) (rest := []) (ws := [(zMO m0 npu nte nat_ nde nto nse nhu nga nsd nfa mrf mki mpa mta mla msl mco mhe mso msi msh mce mca mwo mnu mte nba npl nen nnu nwr mwa mke mma mth mtr nra nik), (mrf, .inl (cI, 8, .inl grf)), (mla, .inl (cI, 40, .inl gla)), (x0, .inr (7, [.ref xs, .ref j0, .ref k0, .ref w0, .ref rd, .ref mv, .ref xr, .int im, .int lf])), (xr, .inl (cI, 8, .inl q_11)), (j0, .inr (0, [.ref z0, .ref jp, .ref jc, .int cn, .int de, .int tr, .int se, .int hu, .int sd])), (z0, .inr (6, [.ref zl, .ref zs, .int sz, .int at_, .int gp])), (zl, .inl (cZ, 40, .inl q_10))]) (wr := [(x0, .inr (7, [.ref xs, .ref j0, .ref k0, .ref w0, .ref rd, .ref mv, .ref xr, .int im, .int lf])), (xr, .inl (cI, 8, .inl q_11)), (j0, .inr (0, [.ref z0, .ref jp, .ref jc, .int cn, .int de, .int tr, .int se, .int hu, .int sd])), (z0, .inr (6, [.ref zl, .ref zs, .int sz, .int at_, .int gp])), (zl, .inl (cZ, 40, .inl q_10))]) ⟨hx, hb, hml, hown, hts⟩ (c_F_M_lack l D cI cJ cZ cP cS po m0 mrf mki mpa mta mla msl mco mhe mso msi msh mce mca mwo mnu mte mwa mke mma mth mtr (npu) (nte) (nat_) (nde) (nto) (nse) (nhu) (nga) (nsd) (nfa) (nba) (npl) (nen) (nnu) (nwr) (nra) (nik) grf gla (a_3) (0) b_npu.1 b_npu.2 b_nte.1 b_nte.2 b_nat_.1 b_nat_.2 b_nde.1 b_nde.2 b_nhu.1 b_nhu.2 b_nra.1 b_nra.2 b_nik.1 b_nik.2 (by omega) (by omega) hp_gla H.size) (cwV 2 hts gq_65 rfl rfl rfl ⟨rfl, dh_X8_lack⟩ ⟨Nat.le_of_ble_eq_true rfl, Nat.le_of_ble_eq_true rfl⟩) hK hN hP hD hS hA [0, 1, 2] [3, 4, 5, 6, 7] rfl rfl (by decide) (by decide) (by decide) (zE_law (isC := [0, 1, 2]) hz1 hz2 hP hD hS hA rfl hpr) (va_recv (q := (RX8, TX8, 38)) hK hP (ci := 8) (q0 := 0) rfl rfl) rfl hl.1 rfl (Nat.le_of_ble_eq_true rfl) dL_law_642 ⟨zRmC hkc hn6 hL (by decide), zRmS hks hn6 hL (by decide)⟩ (fun r_17 u_18 H locs hr_17 hP hD hS => ?_)
      obtain ⟨q_19, q_20⟩ := u_18
      try dsimp only at hr_17
      obtain ⟨hpq_20, hsr_17_0, hr_17⟩ := hr_17
      have h9R := zRe (ws' := ([(x0, .inr (7, [.ref xs, .ref j0, .ref k0, .ref w0, .ref rd, .ref mv, .ref xr, .int im, .int lf])), (xr, .inl (cI, 8, .inl q_11)), (j0, .inr (0, [.ref z0, .ref jp, .ref jc, .int cn, .int de, .int tr, .int se, .int hu, .int sd])), (z0, .inr (6, [.ref zl, .ref zs, .int sz, .int at_, .int gp])), (zl, .inl (cZ, 40, .inl q_10)), (zMO m0 npu nte nat_ nde nto nse nhu nga nsd nfa mrf mki mpa mta mla msl mco mhe mso msi msh mce mca mwo mnu mte nba npl nen nnu nwr mwa mke mma mth mtr nra nik), (mrf, .inl (cI, 8, .inl q_19)), (mla, .inl (cI, 40, .inl q_20))] ++ (So ++ po.1.map zPo))) hP hD rfl
      clear hP hD
      obtain ⟨hP, hD⟩ := h9R
      obtain ⟨hT9, hA⟩ := zTt_lack hT hsz b_sz.2 hsr_8_0 hsr_17_0
      refine lv_pop hx hb dL_law_645 rfl ?_
      refine lv_goto (tgt := 1370) hx hb dL_law_646 (by decide) ?_
      exact hnx im lf cn de tr se hu sd sz at_ gp npu nte nat_ nde nto nse nhu nga nsd nfa nba npl nen nnu nwr nra nik q_10 q_11 q_19 q_20 b_im b_lf b_cn b_de b_se b_hu b_sz b_at_ b_gp b_npu b_nte b_nat_ b_nde b_nhu b_nra b_nik hpq_10 hpq_20 hjp hik hcn hsz him hlf hkq hT9 hTk hKI hKk hNu hNk b_atsz _ _ (zRmN hkc) (zRmM hks) H locs (hP.part [0, 2, 3, 4, 1, 5, 6, 7] rfl) (hD.part [0, 2, 3, 4, 1, 5, 6, 7] (by decide +kernel) rfl) hS ls (lv_sub hl [0, 1, 2, 3] rfl)
    · exfalso; have fc_16 : a_6.toInt ≠ 0 := zf_ne c_16 rfl (by decide); omega
  · have fc_7 : a_6.toInt ≠ 0 := zf_ne c_7 rfl (by decide)
    refine lv_iconst (v := 1) hx hb dL_law_614 (by decide) ?_
    refine lv_goto (tgt := 619) hx hb dL_law_615 (by decide) ?_
    have kc1 : (1 : Int32).toInt = 1 := by decide
    skip
    refine zt_V (As := [.int a_3, .int 1]) (rest := []) (ws := [(x0, .inr (7, [.ref xs, .ref j0, .ref k0, .ref w0, .ref rd, .ref mv, .ref xr, .int im, .int lf])), (j0, .inr (0, [.ref z0, .ref jp, .ref jc, .int cn, .int de, .int tr, .int se, .int hu, .int sd])), (z0, .inr (6, [.ref zl, .ref zs, .int sz, .int at_, .int gp])), (zl, .inl (cZ, 40, .inl fzl)), (xr, .inl (cI, 8, .inl fxr)), (zMO m0 npu nte nat_ nde nto nse nhu nga nsd nfa mrf mki mpa mta mla msl mco mhe mso msi msh mce mca mwo mnu mte nba npl nen nnu nwr mwa mke mma mth mtr nra nik), (mrf, .inl (cI, 8, .inl grf)), (mla, .inl (cI, 40, .inl gla))]) (wr := [(zMO m0 npu nte nat_ nde nto nse nhu nga nsd nfa mrf mki mpa mta mla msl mco mhe mso msi msh mce mca mwo mnu mte nba npl nen nnu nwr mwa mke mma mth mtr nra nik), (mrf, .inl (cI, 8, .inl grf)), (mla, .inl (cI, 40, .inl gla))]) ⟨hx, hb, hml, hown, hts⟩ (c_F_X_lack l D cI cJ cZ cP cS po x0 xs j0 k0 w0 rd mv xr (im) (lf) fxr j0 jp jc z0 zl zs (cn) (de) (tr) (se) (hu) (sd) (sz) (at_) (gp) fzl ((fun _ => 0)) (a_3) (1) b_im.1 b_im.2 b_lf.1 b_lf.2 b_cn.1 b_cn.2 b_de.1 b_de.2 b_hu.1 b_hu.2 b_sz.1 b_sz.2 b_at_.1 b_at_.2 b_gp.1 b_gp.2 (by omega) (by omega) hp_fzl H.size) (cwV 2 hts gq_61 rfl rfl rfl ⟨rfl, dh_X7_lack⟩ ⟨Nat.le_of_ble_eq_true rfl, Nat.le_of_ble_eq_true rfl⟩) hK hN hP hD hS hA [0, 4, 1, 2, 3] [5, 6, 7] rfl rfl (by decide) (by decide) (by decide) (zE_law (isC := [0, 4, 1, 2, 3]) hz1 hz2 hP hD hS hA rfl hpr) (va_recv (q := (RX7, TX7, 9)) hK hP (ci := 7) (q0 := 0) rfl rfl) rfl hl.1 rfl (Nat.le_of_ble_eq_true rfl) dL_law_619 ⟨zRmC hkc hn6 hL (by decide), zRmS hks hn6 hL (by decide)⟩ (fun r_21 u_22 H locs hr_21 hP hD hS => ?_)
    obtain ⟨q_23, q_24⟩ := u_22
    try dsimp only at hr_21
    obtain ⟨hpq_23, hsr_21_0, hr_21⟩ := hr_21
    have h9R := zRe (ws' := ([(zMO m0 npu nte nat_ nde nto nse nhu nga nsd nfa mrf mki mpa mta mla msl mco mhe mso msi msh mce mca mwo mnu mte nba npl nen nnu nwr mwa mke mma mth mtr nra nik), (mrf, .inl (cI, 8, .inl grf)), (mla, .inl (cI, 40, .inl gla)), (x0, .inr (7, [.ref xs, .ref j0, .ref k0, .ref w0, .ref rd, .ref mv, .ref xr, .int im, .int lf])), (xr, .inl (cI, 8, .inl q_24)), (j0, .inr (0, [.ref z0, .ref jp, .ref jc, .int cn, .int de, .int tr, .int se, .int hu, .int sd])), (z0, .inr (6, [.ref zl, .ref zs, .int sz, .int at_, .int gp])), (zl, .inl (cZ, 40, .inl q_23))] ++ (So ++ po.1.map zPo))) hP hD rfl
    clear hP hD
    obtain ⟨hP, hD⟩ := h9R
    refine lv_pop hx hb dL_law_622 rfl ?_
    refine lv_aload_n hx hb dL_law_623 rfl (lv_at hl 1 rfl) ?_
    refine lv_aload_n hx hb dL_law_624 rfl (lv_at hl 3 rfl) ?_
    refine lv_iload_n hx hb dL_law_625 rfl (lv_at hl 0 rfl) ?_
    refine lv_iconst (v := 1) hx hb dL_law_626 (by decide) ?_
    refine lv_iadd hx hb dL_law_627 ?_
    refine lv_topi (fun y_25 ey_25 => ?_)
    obtain rfl : x_1 = y_25 := ex_1.trans ey_25.symm
    refine va_sld hx hb hX hbl hbA hS (zLin qx_1 (by decide) (by decide) hi6 hn6) dL_law_628 ?_
    refine lv_topi (fun y_26 ey_26 => ?_)
    obtain rfl : a_3 = y_26 := ea_3.trans ey_26.symm
    refine lv_aload_n hx hb dL_law_629 rfl (lv_at hl 3 rfl) ?_
    refine lv_iload_n hx hb dL_law_630 rfl (lv_at hl 0 rfl) ?_
    refine lv_iconst (v := 2) hx hb dL_law_631 (by decide) ?_
    refine lv_iadd hx hb dL_law_632 ?_
    refine lv_topi (fun y_27 ey_27 => ?_)
    obtain rfl : x_4 = y_27 := ex_4.trans ey_27.symm
    refine va_sld hx hb hX hbl hbA hS (zLin qx_4 (by decide) (by decide) hi6 hn6) dL_law_633 ?_
    refine lv_topi (fun y_28 ey_28 => ?_)
    obtain rfl : a_6 = y_28 := ea_6.trans ey_28.symm
    refine lv_if_eq (tgt := 641) hx hb dL_law_634 (by decide) (fun c_29 => ?_) (fun c_29 => ?_)
    · exfalso; have fc_29 : a_6.toInt = 0 := zf_eq c_29 rfl (by decide); omega
    · have fc_29 : a_6.toInt ≠ 0 := zf_ne c_29 rfl (by decide)
      refine lv_iconst (v := 1) hx hb dL_law_637 (by decide) ?_
      refine lv_goto (tgt := 642) hx hb dL_law_638 (by decide) ?_
      skip
      refine zt_V (As := [.int a_3, .int 1]) (rest := []) (ws := [(zMO m0 npu nte nat_ nde nto nse nhu nga nsd nfa mrf mki mpa mta mla msl mco mhe mso msi msh mce mca mwo mnu mte nba npl nen nnu nwr mwa mke mma mth mtr nra nik), (mrf, .inl (cI, 8, .inl grf)), (mla, .inl (cI, 40, .inl gla)), (x0, .inr (7, [.ref xs, .ref j0, .ref k0, .ref w0, .ref rd, .ref mv, .ref xr, .int im, .int lf])), (xr, .inl (cI, 8, .inl q_24)), (j0, .inr (0, [.ref z0, .ref jp, .ref jc, .int cn, .int de, .int tr, .int se, .int hu, .int sd])), (z0, .inr (6, [.ref zl, .ref zs, .int sz, .int at_, .int gp])), (zl, .inl (cZ, 40, .inl q_23))]) (wr := [(x0, .inr (7, [.ref xs, .ref j0, .ref k0, .ref w0, .ref rd, .ref mv, .ref xr, .int im, .int lf])), (xr, .inl (cI, 8, .inl q_24)), (j0, .inr (0, [.ref z0, .ref jp, .ref jc, .int cn, .int de, .int tr, .int se, .int hu, .int sd])), (z0, .inr (6, [.ref zl, .ref zs, .int sz, .int at_, .int gp])), (zl, .inl (cZ, 40, .inl q_23))]) ⟨hx, hb, hml, hown, hts⟩ (c_F_M_lack l D cI cJ cZ cP cS po m0 mrf mki mpa mta mla msl mco mhe mso msi msh mce mca mwo mnu mte mwa mke mma mth mtr (npu) (nte) (nat_) (nde) (nto) (nse) (nhu) (nga) (nsd) (nfa) (nba) (npl) (nen) (nnu) (nwr) (nra) (nik) grf gla (a_3) (1) b_npu.1 b_npu.2 b_nte.1 b_nte.2 b_nat_.1 b_nat_.2 b_nde.1 b_nde.2 b_nhu.1 b_nhu.2 b_nra.1 b_nra.2 b_nik.1 b_nik.2 (by omega) (by omega) hp_gla H.size) (cwV 2 hts gq_65 rfl rfl rfl ⟨rfl, dh_X8_lack⟩ ⟨Nat.le_of_ble_eq_true rfl, Nat.le_of_ble_eq_true rfl⟩) hK hN hP hD hS hA [0, 1, 2] [3, 4, 5, 6, 7] rfl rfl (by decide) (by decide) (by decide) (zE_law (isC := [0, 1, 2]) hz1 hz2 hP hD hS hA rfl hpr) (va_recv (q := (RX8, TX8, 38)) hK hP (ci := 8) (q0 := 0) rfl rfl) rfl hl.1 rfl (Nat.le_of_ble_eq_true rfl) dL_law_642 ⟨zRmC hkc hn6 hL (by decide), zRmS hks hn6 hL (by decide)⟩ (fun r_30 u_31 H locs hr_30 hP hD hS => ?_)
      obtain ⟨q_32, q_33⟩ := u_31
      try dsimp only at hr_30
      obtain ⟨hpq_33, hsr_30_0, hr_30⟩ := hr_30
      have h9R := zRe (ws' := ([(x0, .inr (7, [.ref xs, .ref j0, .ref k0, .ref w0, .ref rd, .ref mv, .ref xr, .int im, .int lf])), (xr, .inl (cI, 8, .inl q_24)), (j0, .inr (0, [.ref z0, .ref jp, .ref jc, .int cn, .int de, .int tr, .int se, .int hu, .int sd])), (z0, .inr (6, [.ref zl, .ref zs, .int sz, .int at_, .int gp])), (zl, .inl (cZ, 40, .inl q_23)), (zMO m0 npu nte nat_ nde nto nse nhu nga nsd nfa mrf mki mpa mta mla msl mco mhe mso msi msh mce mca mwo mnu mte nba npl nen nnu nwr mwa mke mma mth mtr nra nik), (mrf, .inl (cI, 8, .inl q_32)), (mla, .inl (cI, 40, .inl q_33))] ++ (So ++ po.1.map zPo))) hP hD rfl
      clear hP hD
      obtain ⟨hP, hD⟩ := h9R
      obtain ⟨hT9, hA⟩ := zTt_lack hT hsz b_sz.2 hsr_21_0 hsr_30_0
      refine lv_pop hx hb dL_law_645 rfl ?_
      refine lv_goto (tgt := 1370) hx hb dL_law_646 (by decide) ?_
      exact hnx im lf cn de tr se hu sd sz at_ gp npu nte nat_ nde nto nse nhu nga nsd nfa nba npl nen nnu nwr nra nik q_23 q_24 q_32 q_33 b_im b_lf b_cn b_de b_se b_hu b_sz b_at_ b_gp b_npu b_nte b_nat_ b_nde b_nhu b_nra b_nik hpq_23 hpq_33 hjp hik hcn hsz him hlf hkq hT9 hTk hKI hKk hNu hNk b_atsz _ _ (zRmN hkc) (zRmM hks) H locs (hP.part [0, 2, 3, 4, 1, 5, 6, 7] rfl) (hD.part [0, 2, 3, 4, 1, 5, 6, 7] (by decide +kernel) rfl) hS ls (lv_sub hl [0, 1, 2, 3] rfl)
set_option maxHeartbeats 16000000 in
set_option maxRecDepth 200000 in
theorem law_core_11 {p : Program} {l : Launch} {e : Env} {s : State} {m : MethodId} {below : List Frame} {meth : Method} {c : Code} {D : va_G} {cI cJ cZ cP cS : ClassId} {b L : Nat} {xs_ : Nat → Int32} (x0 xs j0 k0 w0 rd mv xr z0 jp jc zl zs m0 mrf mki mpa mta mla msl mco mhe mso msi msh mce mca mwo mnu mte mwa mke mma mth mtr : Nat) {So : va_W} (n nkc nks : Nat) (i : Int32) (po : zPool) (im lf cn de tr se hu sd sz at_ gp kcn kde ktr kse khu ksd ksz kat kgp npu nte nat_ nde nto nse nhu nga nsd nfa nba npl nen nnu nwr nra nik : Int32) (fzl fzs fjc fkzl fkzs fkc fxr grf gki gpa gta gla gsl gco gke kf af tf kkf kaf ktf : Nat → Int32) (fp : Nat → Option Nat) (C0 : lw_At p s m meth c b L xs_) (hK : va_K D vwCl (zKT cI cJ cZ cP cS) s) (hN : zN s) (hz1 : zSt (fun q : Nat => s.heap.size ≤ q) s s.heap) (hL : L ≤ 3072) (b_im : 0 ≤ im.toInt ∧ im.toInt ≤ 1) (b_lf : (-1) ≤ lf.toInt ∧ lf.toInt ≤ 160) (b_cn : 0 ≤ cn.toInt ∧ cn.toInt ≤ 8) (b_de : 0 ≤ de.toInt ∧ de.toInt ≤ 24) (b_se : 0 ≤ se.toInt ∧ se.toInt ≤ 300) (b_hu : 0 ≤ hu.toInt ∧ hu.toInt ≤ 9) (b_sz : 4 ≤ sz.toInt ∧ sz.toInt ≤ 40) (b_at_ : 0 ≤ at_.toInt ∧ at_.toInt ≤ 40) (b_gp : 1 ≤ gp.toInt ∧ gp.toInt ≤ 9) (b_npu : 0 ≤ npu.toInt ∧ npu.toInt ≤ 8) (b_nte : 4 ≤ nte.toInt ∧ nte.toInt ≤ 40) (b_nat_ : 0 ≤ nat_.toInt ∧ nat_.toInt ≤ 40) (b_nde : 0 ≤ nde.toInt ∧ nde.toInt ≤ 24) (b_nhu : 0 ≤ nhu.toInt ∧ nhu.toInt ≤ 9) (b_nra : 0 ≤ nra.toInt ∧ nra.toInt ≤ 2000) (b_nik : 0 ≤ nik.toInt ∧ nik.toInt ≤ 1) (hp_fzs : zRg fzs (0) 9) (hp_gsl : zRg gsl (0) 9) (hjp : zJP po fp cn kf af tf) (hik : (nik.toInt = 1 → zKp gke)) (hcn : cn.toInt = npu.toInt) (hsz : sz.toInt = nte.toInt) (him : im.toInt = nik.toInt) (hlf : lf.toInt = nfa.toInt) (hkq : (nik.toInt = 1 → kcn.toInt = (gke 107).toInt ∧ ksz.toInt = (gke 108).toInt)) (hT : zTt fzl fzs gla gsl gp nga) (hTk : (nik.toInt = 1 → zTk_ fkzl fkzs gke kgp)) (hKI : zTp kf af tf gki gpa gta hu nhu) (hKk : (nik.toInt = 1 → zTq kkf kaf ktf gke khu)) (hNu : zNu de at_ se tr sd fjc nde nat_ nse nto nsd gco) (hNk : (nik.toInt = 1 → zNk kde kat kse ktr ksd fkc gke)) (b_atsz : at_.toInt ≤ sz.toInt) (hz2 : zStr po (fun q : Nat => s.heap.size ≤ q) s s.heap) (hpr : ∀ z ∈ po.1, zPr z.2.1 z.2.2.1 z.2.2.2) (hkc : nkc ≤ 100 + 40 * n) (hks : nks ≤ 10000 + 120 * n) (hi6 : i.toInt = 6 * (n : Int)) (hn6 : 6 * (n : Int) + 6 ≤ (L : Int)) (H : Heap) (locs : List Loc) (hP : va_P D vwCl ([(x0, .inr (7, [.ref xs, .ref j0, .ref k0, .ref w0, .ref rd, .ref mv, .ref xr, .int im, .int lf])), (j0, .inr (0, [.ref z0, .ref jp, .ref jc, .int cn, .int de, .int tr, .int se, .int hu, .int sd])), (z0, .inr (6, [.ref zl, .ref zs, .int sz, .int at_, .int gp])), (zs, .inl (cI, 40, .inl fzs)), (xr, .inl (cI, 8, .inl fxr)), (zMO m0 npu nte nat_ nde nto nse nhu nga nsd nfa mrf mki mpa mta mla msl mco mhe mso msi msh mce mca mwo mnu mte nba npl nen nnu nwr mwa mke mma mth mtr nra nik), (mrf, .inl (cI, 8, .inl grf)), (msl, .inl (cI, 40, .inl gsl))] ++ (So ++ po.1.map zPo)) H) (hD : va_D (fun q : Nat => s.heap.size ≤ q) ([(x0, .inr (7, [.ref xs, .ref j0, .ref k0, .ref w0, .ref rd, .ref mv, .ref xr, .int im, .int lf])), (j0, .inr (0, [.ref z0, .ref jp, .ref jc, .int cn, .int de, .int tr, .int se, .int hu, .int sd])), (z0, .inr (6, [.ref zl, .ref zs, .int sz, .int at_, .int gp])), (zs, .inl (cI, 40, .inl fzs)), (xr, .inl (cI, 8, .inl fxr)), (zMO m0 npu nte nat_ nde nto nse nhu nga nsd nfa mrf mki mpa mta mla msl mco mhe mso msi msh mce mca mwo mnu mte nba npl nen nnu nwr mwa mke mma mth mtr nra nik), (mrf, .inl (cI, 8, .inl grf)), (msl, .inl (cI, 40, .inl gsl))] ++ (So ++ po.1.map zPo))) (hS : va_S (fun q : Nat => s.heap.size ≤ q) s.heap H locs) (ls : Array Slot) (hl : lv_has ls 4 [(3, .int i), (2, .ref m0), (1, .ref x0), (0, .ref b)]) (hnx : ∀ (im lf cn de tr se hu sd sz at_ gp npu nte nat_ nde nto nse nhu nga nsd nfa nba npl nen nnu nwr nra nik : Int32) (fzs fxr grf gsl : Nat → Int32) (b_im : 0 ≤ im.toInt ∧ im.toInt ≤ 1) (b_lf : (-1) ≤ lf.toInt ∧ lf.toInt ≤ 160) (b_cn : 0 ≤ cn.toInt ∧ cn.toInt ≤ 8) (b_de : 0 ≤ de.toInt ∧ de.toInt ≤ 24) (b_se : 0 ≤ se.toInt ∧ se.toInt ≤ 300) (b_hu : 0 ≤ hu.toInt ∧ hu.toInt ≤ 9) (b_sz : 4 ≤ sz.toInt ∧ sz.toInt ≤ 40) (b_at_ : 0 ≤ at_.toInt ∧ at_.toInt ≤ 40) (b_gp : 1 ≤ gp.toInt ∧ gp.toInt ≤ 9) (b_npu : 0 ≤ npu.toInt ∧ npu.toInt ≤ 8) (b_nte : 4 ≤ nte.toInt ∧ nte.toInt ≤ 40) (b_nat_ : 0 ≤ nat_.toInt ∧ nat_.toInt ≤ 40) (b_nde : 0 ≤ nde.toInt ∧ nde.toInt ≤ 24) (b_nhu : 0 ≤ nhu.toInt ∧ nhu.toInt ≤ 9) (b_nra : 0 ≤ nra.toInt ∧ nra.toInt ≤ 2000) (b_nik : 0 ≤ nik.toInt ∧ nik.toInt ≤ 1) (hp_fzs : zRg fzs (0) 9) (hp_gsl : zRg gsl (0) 9) (hjp : zJP po fp cn kf af tf) (hik : (nik.toInt = 1 → zKp gke)) (hcn : cn.toInt = npu.toInt) (hsz : sz.toInt = nte.toInt) (him : im.toInt = nik.toInt) (hlf : lf.toInt = nfa.toInt) (hkq : (nik.toInt = 1 → kcn.toInt = (gke 107).toInt ∧ ksz.toInt = (gke 108).toInt)) (hT : zTt fzl fzs gla gsl gp nga) (hTk : (nik.toInt = 1 → zTk_ fkzl fkzs gke kgp)) (hKI : zTp kf af tf gki gpa gta hu nhu) (hKk : (nik.toInt = 1 → zTq kkf kaf ktf gke khu)) (hNu : zNu de at_ se tr sd fjc nde nat_ nse nto nsd gco) (hNk : (nik.toInt = 1 → zNk kde kat kse ktr ksd fkc gke)) (b_atsz : at_.toInt ≤ sz.toInt) (nkc nks : Nat) (hkc : nkc ≤ 100 + 40 * (n + 1)) (hks : nks ≤ 10000 + 120 * (n + 1)) (H : Heap) (locs : List Loc) (hP : va_P D vwCl ([(x0, .inr (7, [.ref xs, .ref j0, .ref k0, .ref w0, .ref rd, .ref mv, .ref xr, .int im, .int lf])), (j0, .inr (0, [.ref z0, .ref jp, .ref jc, .int cn, .int de, .int tr, .int se, .int hu, .int sd])), (z0, .inr (6, [.ref zl, .ref zs, .int sz, .int at_, .int gp])), (zs, .inl (cI, 40, .inl fzs)), (xr, .inl (cI, 8, .inl fxr)), (zMO m0 npu nte nat_ nde nto nse nhu nga nsd nfa mrf mki mpa mta mla msl mco mhe mso msi msh mce mca mwo mnu mte nba npl nen nnu nwr mwa mke mma mth mtr nra nik), (mrf, .inl (cI, 8, .inl grf)), (msl, .inl (cI, 40, .inl gsl))] ++ (So ++ po.1.map zPo)) H) (hD : va_D (fun q : Nat => s.heap.size ≤ q) ([(x0, .inr (7, [.ref xs, .ref j0, .ref k0, .ref w0, .ref rd, .ref mv, .ref xr, .int im, .int lf])), (j0, .inr (0, [.ref z0, .ref jp, .ref jc, .int cn, .int de, .int tr, .int se, .int hu, .int sd])), (z0, .inr (6, [.ref zl, .ref zs, .int sz, .int at_, .int gp])), (zs, .inl (cI, 40, .inl fzs)), (xr, .inl (cI, 8, .inl fxr)), (zMO m0 npu nte nat_ nde nto nse nhu nga nsd nfa mrf mki mpa mta mla msl mco mhe mso msi msh mce mca mwo mnu mte nba npl nen nnu nwr mwa mke mma mth mtr nra nik), (mrf, .inl (cI, 8, .inl grf)), (msl, .inl (cI, 40, .inl gsl))] ++ (So ++ po.1.map zPo))) (hS : va_S (fun q : Nat => s.heap.size ≤ q) s.heap H locs) (ls : Array Slot) (hl : lv_has ls 4 [(3, .int i), (2, .ref m0), (1, .ref x0), (0, .ref b)]), W p l e room_1 s m #[Value.ref b] below meth c H locs nkc nks (lw_Z below #[Value.ref b] s) (F0 m 1370 ls [])) : W p l e room_1 s m #[Value.ref b] below meth c H locs nkc nks (lw_Z below #[Value.ref b] s) (F0 m 649 ls []) := by
  obtain ⟨hx, hb, hr, hml, hown0, hts, hX, hbl, hlocks, hgv⟩ := id C0
  have hown : s.vm.findClass RL = some m.cls := hown0
  have hA : ∀ q : Nat, s.heap.size ≤ q → (fun q : Nat => s.heap.size ≤ q) q := fun _ h => h
  have hbA : ¬ (fun q : Nat => s.heap.size ≤ q) b := Nat.not_le.mpr hbl
  have hga9 : 1 ≤ nga.toInt ∧ nga.toInt ≤ 9 := by (have z := hT.2.2; omega)
  obtain ⟨hNa, hNb, hNc, -⟩ := id hNu
  refine lv_aload_n hx hb dL_law_649 rfl (lv_at hl 2 rfl) ?_
  refine lv_aload_n hx hb dL_law_650 rfl (lv_at hl 3 rfl) ?_
  refine lv_iload_n hx hb dL_law_651 rfl (lv_at hl 0 rfl) ?_
  refine lv_iconst (v := 1) hx hb dL_law_652 (by decide) ?_
  refine lv_iadd hx hb dL_law_653 ?_
  refine lv_topi (fun x_1 ex_1 => ?_)
  have qx_1 : x_1.toInt = i.toInt + 1 := zLadd ex_1 (by decide) (by decide) (by decide) hi6 hn6 hL
  refine va_sld hx hb hX hbl hbA hS (zLin qx_1 (by decide) (by decide) hi6 hn6) dL_law_654 ?_
  refine lv_topi (fun a_3 ea_3 => ?_)
  refine lv_aload_n hx hb dL_law_655 rfl (lv_at hl 3 rfl) ?_
  refine lv_iload_n hx hb dL_law_656 rfl (lv_at hl 0 rfl) ?_
  refine lv_iconst (v := 2) hx hb dL_law_657 (by decide) ?_
  refine lv_iadd hx hb dL_law_658 ?_
  refine lv_topi (fun x_4 ex_4 => ?_)
  have qx_4 : x_4.toInt = i.toInt + 2 := zLadd ex_4 (by decide) (by decide) (by decide) hi6 hn6 hL
  refine va_sld hx hb hX hbl hbA hS (zLin qx_4 (by decide) (by decide) hi6 hn6) dL_law_659 ?_
  refine lv_topi (fun a_6 ea_6 => ?_)
  skip
  refine zt_V (As := [.int a_3, .int a_6]) (rest := []) (ws := [(x0, .inr (7, [.ref xs, .ref j0, .ref k0, .ref w0, .ref rd, .ref mv, .ref xr, .int im, .int lf])), (j0, .inr (0, [.ref z0, .ref jp, .ref jc, .int cn, .int de, .int tr, .int se, .int hu, .int sd])), (z0, .inr (6, [.ref zl, .ref zs, .int sz, .int at_, .int gp])), (zs, .inl (cI, 40, .inl fzs)), (xr, .inl (cI, 8, .inl fxr)), (zMO m0 npu nte nat_ nde nto nse nhu nga nsd nfa mrf mki mpa mta mla msl mco mhe mso msi msh mce mca mwo mnu mte nba npl nen nnu nwr mwa mke mma mth mtr nra nik), (mrf, .inl (cI, 8, .inl grf)), (msl, .inl (cI, 40, .inl gsl))]) (wr := [(zMO m0 npu nte nat_ nde nto nse nhu nga nsd nfa mrf mki mpa mta mla msl mco mhe mso msi msh mce mca mwo mnu mte nba npl nen nnu nwr mwa mke mma mth mtr nra nik), (mrf, .inl (cI, 8, .inl grf)), (msl, .inl (cI, 40, .inl gsl))]) ⟨hx, hb, hml, hown, hts⟩ (c_F_X_slack l D cI cJ cZ cP cS po x0 xs j0 k0 w0 rd mv xr (im) (lf) fxr j0 jp jc z0 zl zs (cn) (de) (tr) (se) (hu) (sd) (sz) (at_) (gp) ((fun _ => 0)) fzs (a_3) (a_6) b_im.1 b_im.2 b_lf.1 b_lf.2 b_cn.1 b_cn.2 b_de.1 b_de.2 b_hu.1 b_hu.2 b_sz.1 b_sz.2 b_at_.1 b_at_.2 b_gp.1 b_gp.2 hp_fzs H.size) (cwV 2 hts gq_66 rfl rfl rfl ⟨rfl, dh_X7_slack⟩ ⟨Nat.le_of_ble_eq_true rfl, Nat.le_of_ble_eq_true rfl⟩) hK hN hP hD hS hA [0, 4, 1, 2, 3] [5, 6, 7] rfl rfl (by decide) (by decide) (by decide) (zE_law (isC := [0, 4, 1, 2, 3]) hz1 hz2 hP hD hS hA rfl hpr) (va_recv (q := (RX7, TX7, 9)) hK hP (ci := 7) (q0 := 0) rfl rfl) rfl hl.1 rfl (Nat.le_of_ble_eq_true rfl) dL_law_660 ⟨zRmC hkc hn6 hL (by decide), zRmS hks hn6 hL (by decide)⟩ (fun r_7 u_8 H locs hr_7 hP hD hS => ?_)
  obtain ⟨q_9, q_10⟩ := u_8
  try dsimp only at hr_7
  obtain ⟨hpq_9, hsr_7_0, hr_7⟩ := hr_7
  have h9R := zRe (ws' := ([(zMO m0 npu nte nat_ nde nto nse nhu nga nsd nfa mrf mki mpa mta mla msl mco mhe mso msi msh mce mca mwo mnu mte nba npl nen nnu nwr mwa mke mma mth mtr nra nik), (mrf, .inl (cI, 8, .inl grf)), (msl, .inl (cI, 40, .inl gsl)), (x0, .inr (7, [.ref xs, .ref j0, .ref k0, .ref w0, .ref rd, .ref mv, .ref xr, .int im, .int lf])), (xr, .inl (cI, 8, .inl q_10)), (j0, .inr (0, [.ref z0, .ref jp, .ref jc, .int cn, .int de, .int tr, .int se, .int hu, .int sd])), (z0, .inr (6, [.ref zl, .ref zs, .int sz, .int at_, .int gp])), (zs, .inl (cI, 40, .inl q_9))] ++ (So ++ po.1.map zPo))) hP hD rfl
  clear hP hD
  obtain ⟨hP, hD⟩ := h9R
  refine lv_pop hx hb dL_law_663 rfl ?_
  refine lv_aload_n hx hb dL_law_664 rfl (lv_at hl 1 rfl) ?_
  refine lv_aload_n hx hb dL_law_665 rfl (lv_at hl 3 rfl) ?_
  refine lv_iload_n hx hb dL_law_666 rfl (lv_at hl 0 rfl) ?_
  refine lv_iconst (v := 1) hx hb dL_law_667 (by decide) ?_
  refine lv_iadd hx hb dL_law_668 ?_
  refine lv_topi (fun y_11 ey_11 => ?_)
  obtain rfl : x_1 = y_11 := ex_1.trans ey_11.symm
  refine va_sld hx hb hX hbl hbA hS (zLin qx_1 (by decide) (by decide) hi6 hn6) dL_law_669 ?_
  refine lv_topi (fun y_12 ey_12 => ?_)
  obtain rfl : a_3 = y_12 := ea_3.trans ey_12.symm
  refine lv_aload_n hx hb dL_law_670 rfl (lv_at hl 3 rfl) ?_
  refine lv_iload_n hx hb dL_law_671 rfl (lv_at hl 0 rfl) ?_
  refine lv_iconst (v := 2) hx hb dL_law_672 (by decide) ?_
  refine lv_iadd hx hb dL_law_673 ?_
  refine lv_topi (fun y_13 ey_13 => ?_)
  obtain rfl : x_4 = y_13 := ex_4.trans ey_13.symm
  refine va_sld hx hb hX hbl hbA hS (zLin qx_4 (by decide) (by decide) hi6 hn6) dL_law_674 ?_
  refine lv_topi (fun y_14 ey_14 => ?_)
  obtain rfl : a_6 = y_14 := ea_6.trans ey_14.symm
  skip
  refine zt_V (As := [.int a_3, .int a_6]) (rest := []) (ws := [(zMO m0 npu nte nat_ nde nto nse nhu nga nsd nfa mrf mki mpa mta mla msl mco mhe mso msi msh mce mca mwo mnu mte nba npl nen nnu nwr mwa mke mma mth mtr nra nik), (mrf, .inl (cI, 8, .inl grf)), (msl, .inl (cI, 40, .inl gsl)), (x0, .inr (7, [.ref xs, .ref j0, .ref k0, .ref w0, .ref rd, .ref mv, .ref xr, .int im, .int lf])), (xr, .inl (cI, 8, .inl q_10)), (j0, .inr (0, [.ref z0, .ref jp, .ref jc, .int cn, .int de, .int tr, .int se, .int hu, .int sd])), (z0, .inr (6, [.ref zl, .ref zs, .int sz, .int at_, .int gp])), (zs, .inl (cI, 40, .inl q_9))]) (wr := [(x0, .inr (7, [.ref xs, .ref j0, .ref k0, .ref w0, .ref rd, .ref mv, .ref xr, .int im, .int lf])), (xr, .inl (cI, 8, .inl q_10)), (j0, .inr (0, [.ref z0, .ref jp, .ref jc, .int cn, .int de, .int tr, .int se, .int hu, .int sd])), (z0, .inr (6, [.ref zl, .ref zs, .int sz, .int at_, .int gp])), (zs, .inl (cI, 40, .inl q_9))]) ⟨hx, hb, hml, hown, hts⟩ (c_F_M_slack l D cI cJ cZ cP cS po m0 mrf mki mpa mta mla msl mco mhe mso msi msh mce mca mwo mnu mte mwa mke mma mth mtr (npu) (nte) (nat_) (nde) (nto) (nse) (nhu) (nga) (nsd) (nfa) (nba) (npl) (nen) (nnu) (nwr) (nra) (nik) grf gsl (a_3) (a_6) b_npu.1 b_npu.2 b_nte.1 b_nte.2 b_nat_.1 b_nat_.2 b_nde.1 b_nde.2 b_nhu.1 b_nhu.2 b_nra.1 b_nra.2 b_nik.1 b_nik.2 hp_gsl H.size) (cwV 2 hts gq_69 rfl rfl rfl ⟨rfl, dh_X8_slack⟩ ⟨Nat.le_of_ble_eq_true rfl, Nat.le_of_ble_eq_true rfl⟩) hK hN hP hD hS hA [0, 1, 2] [3, 4, 5, 6, 7] rfl rfl (by decide) (by decide) (by decide) (zE_law (isC := [0, 1, 2]) hz1 hz2 hP hD hS hA rfl hpr) (va_recv (q := (RX8, TX8, 38)) hK hP (ci := 8) (q0 := 0) rfl rfl) rfl hl.1 rfl (Nat.le_of_ble_eq_true rfl) dL_law_675 ⟨zRmC hkc hn6 hL (by decide), zRmS hks hn6 hL (by decide)⟩ (fun r_15 u_16 H locs hr_15 hP hD hS => ?_)
  obtain ⟨q_17, q_18⟩ := u_16
  try dsimp only at hr_15
  obtain ⟨hpq_18, hsr_15_0, hr_15⟩ := hr_15
  have h9R := zRe (ws' := ([(x0, .inr (7, [.ref xs, .ref j0, .ref k0, .ref w0, .ref rd, .ref mv, .ref xr, .int im, .int lf])), (xr, .inl (cI, 8, .inl q_10)), (j0, .inr (0, [.ref z0, .ref jp, .ref jc, .int cn, .int de, .int tr, .int se, .int hu, .int sd])), (z0, .inr (6, [.ref zl, .ref zs, .int sz, .int at_, .int gp])), (zs, .inl (cI, 40, .inl q_9)), (zMO m0 npu nte nat_ nde nto nse nhu nga nsd nfa mrf mki mpa mta mla msl mco mhe mso msi msh mce mca mwo mnu mte nba npl nen nnu nwr mwa mke mma mth mtr nra nik), (mrf, .inl (cI, 8, .inl q_17)), (msl, .inl (cI, 40, .inl q_18))] ++ (So ++ po.1.map zPo))) hP hD rfl
  clear hP hD
  obtain ⟨hP, hD⟩ := h9R
  obtain ⟨hT9, hA⟩ := zTt_slack hT hsz b_sz.2 hsr_7_0 hsr_15_0
  refine lv_pop hx hb dL_law_678 rfl ?_
  refine lv_goto (tgt := 1370) hx hb dL_law_679 (by decide) ?_
  exact hnx im lf cn de tr se hu sd sz at_ gp npu nte nat_ nde nto nse nhu nga nsd nfa nba npl nen nnu nwr nra nik q_9 q_10 q_17 q_18 b_im b_lf b_cn b_de b_se b_hu b_sz b_at_ b_gp b_npu b_nte b_nat_ b_nde b_nhu b_nra b_nik hpq_9 hpq_18 hjp hik hcn hsz him hlf hkq hT9 hTk hKI hKk hNu hNk b_atsz _ _ (zRmN hkc) (zRmM hks) H locs (hP.part [0, 2, 3, 4, 1, 5, 6, 7] rfl) (hD.part [0, 2, 3, 4, 1, 5, 6, 7] (by decide +kernel) rfl) hS ls (lv_sub hl [0, 1, 2, 3] rfl)
set_option maxHeartbeats 16000000 in
set_option maxRecDepth 200000 in
theorem law_core_12 {p : Program} {l : Launch} {e : Env} {s : State} {m : MethodId} {below : List Frame} {meth : Method} {c : Code} {D : va_G} {cI cJ cZ cP cS : ClassId} {b L : Nat} {xs_ : Nat → Int32} (x0 xs j0 k0 w0 rd mv xr z0 jp jc zl zs m0 mrf mki mpa mta mla msl mco mhe mso msi msh mce mca mwo mnu mte mwa mke mma mth mtr : Nat) {So : va_W} (n nkc nks : Nat) (i : Int32) (po : zPool) (im lf cn de tr se hu sd sz at_ gp kcn kde ktr kse khu ksd ksz kat kgp npu nte nat_ nde nto nse nhu nga nsd nfa nba npl nen nnu nwr nra nik : Int32) (fzl fzs fjc fkzl fkzs fkc fxr grf gki gpa gta gla gsl gco gke kf af tf kkf kaf ktf : Nat → Int32) (fp : Nat → Option Nat) (C0 : lw_At p s m meth c b L xs_) (hK : va_K D vwCl (zKT cI cJ cZ cP cS) s) (hN : zN s) (hz1 : zSt (fun q : Nat => s.heap.size ≤ q) s s.heap) (hL : L ≤ 3072) (b_im : 0 ≤ im.toInt ∧ im.toInt ≤ 1) (b_lf : (-1) ≤ lf.toInt ∧ lf.toInt ≤ 160) (b_cn : 0 ≤ cn.toInt ∧ cn.toInt ≤ 8) (b_de : 0 ≤ de.toInt ∧ de.toInt ≤ 24) (b_se : 0 ≤ se.toInt ∧ se.toInt ≤ 300) (b_hu : 0 ≤ hu.toInt ∧ hu.toInt ≤ 9) (b_sz : 4 ≤ sz.toInt ∧ sz.toInt ≤ 40) (b_at_ : 0 ≤ at_.toInt ∧ at_.toInt ≤ 40) (b_gp : 1 ≤ gp.toInt ∧ gp.toInt ≤ 9) (b_npu : 0 ≤ npu.toInt ∧ npu.toInt ≤ 8) (b_nte : 4 ≤ nte.toInt ∧ nte.toInt ≤ 40) (b_nat_ : 0 ≤ nat_.toInt ∧ nat_.toInt ≤ 40) (b_nde : 0 ≤ nde.toInt ∧ nde.toInt ≤ 24) (b_nhu : 0 ≤ nhu.toInt ∧ nhu.toInt ≤ 9) (b_nra : 0 ≤ nra.toInt ∧ nra.toInt ≤ 2000) (b_nik : 0 ≤ nik.toInt ∧ nik.toInt ≤ 1) (hp_fjc : zRg fjc (0) 99) (hp_gco : zRg gco (0) 99) (hjp : zJP po fp cn kf af tf) (hik : (nik.toInt = 1 → zKp gke)) (hcn : cn.toInt = npu.toInt) (hsz : sz.toInt = nte.toInt) (him : im.toInt = nik.toInt) (hlf : lf.toInt = nfa.toInt) (hkq : (nik.toInt = 1 → kcn.toInt = (gke 107).toInt ∧ ksz.toInt = (gke 108).toInt)) (hT : zTt fzl fzs gla gsl gp nga) (hTk : (nik.toInt = 1 → zTk_ fkzl fkzs gke kgp)) (hKI : zTp kf af tf gki gpa gta hu nhu) (hKk : (nik.toInt = 1 → zTq kkf kaf ktf gke khu)) (hNu : zNu de at_ se tr sd fjc nde nat_ nse nto nsd gco) (hNk : (nik.toInt = 1 → zNk kde kat kse ktr ksd fkc gke)) (b_atsz : at_.toInt ≤ sz.toInt) (hz2 : zStr po (fun q : Nat => s.heap.size ≤ q) s s.heap) (hpr : ∀ z ∈ po.1, zPr z.2.1 z.2.2.1 z.2.2.2) (hkc : nkc ≤ 100 + 40 * n) (hks : nks ≤ 10000 + 120 * n) (hi6 : i.toInt = 6 * (n : Int)) (hn6 : 6 * (n : Int) + 6 ≤ (L : Int)) (H : Heap) (locs : List Loc) (hP : va_P D vwCl ([(x0, .inr (7, [.ref xs, .ref j0, .ref k0, .ref w0, .ref rd, .ref mv, .ref xr, .int im, .int lf])), (j0, .inr (0, [.ref z0, .ref jp, .ref jc, .int cn, .int de, .int tr, .int se, .int hu, .int sd])), (z0, .inr (6, [.ref zl, .ref zs, .int sz, .int at_, .int gp])), (jc, .inl (cI, 3, .inl fjc)), (xr, .inl (cI, 8, .inl fxr)), (zMO m0 npu nte nat_ nde nto nse nhu nga nsd nfa mrf mki mpa mta mla msl mco mhe mso msi msh mce mca mwo mnu mte nba npl nen nnu nwr mwa mke mma mth mtr nra nik), (mrf, .inl (cI, 8, .inl grf)), (mco, .inl (cI, 3, .inl gco))] ++ (So ++ po.1.map zPo)) H) (hD : va_D (fun q : Nat => s.heap.size ≤ q) ([(x0, .inr (7, [.ref xs, .ref j0, .ref k0, .ref w0, .ref rd, .ref mv, .ref xr, .int im, .int lf])), (j0, .inr (0, [.ref z0, .ref jp, .ref jc, .int cn, .int de, .int tr, .int se, .int hu, .int sd])), (z0, .inr (6, [.ref zl, .ref zs, .int sz, .int at_, .int gp])), (jc, .inl (cI, 3, .inl fjc)), (xr, .inl (cI, 8, .inl fxr)), (zMO m0 npu nte nat_ nde nto nse nhu nga nsd nfa mrf mki mpa mta mla msl mco mhe mso msi msh mce mca mwo mnu mte nba npl nen nnu nwr mwa mke mma mth mtr nra nik), (mrf, .inl (cI, 8, .inl grf)), (mco, .inl (cI, 3, .inl gco))] ++ (So ++ po.1.map zPo))) (hS : va_S (fun q : Nat => s.heap.size ≤ q) s.heap H locs) (ls : Array Slot) (hl : lv_has ls 4 [(3, .int i), (2, .ref m0), (1, .ref x0), (0, .ref b)]) (hnx : ∀ (im lf cn de tr se hu sd sz at_ gp npu nte nat_ nde nto nse nhu nga nsd nfa nba npl nen nnu nwr nra nik : Int32) (fjc fxr grf gco : Nat → Int32) (b_im : 0 ≤ im.toInt ∧ im.toInt ≤ 1) (b_lf : (-1) ≤ lf.toInt ∧ lf.toInt ≤ 160) (b_cn : 0 ≤ cn.toInt ∧ cn.toInt ≤ 8) (b_de : 0 ≤ de.toInt ∧ de.toInt ≤ 24) (b_se : 0 ≤ se.toInt ∧ se.toInt ≤ 300) (b_hu : 0 ≤ hu.toInt ∧ hu.toInt ≤ 9) (b_sz : 4 ≤ sz.toInt ∧ sz.toInt ≤ 40) (b_at_ : 0 ≤ at_.toInt ∧ at_.toInt ≤ 40) (b_gp : 1 ≤ gp.toInt ∧ gp.toInt ≤ 9) (b_npu : 0 ≤ npu.toInt ∧ npu.toInt ≤ 8) (b_nte : 4 ≤ nte.toInt ∧ nte.toInt ≤ 40) (b_nat_ : 0 ≤ nat_.toInt ∧ nat_.toInt ≤ 40) (b_nde : 0 ≤ nde.toInt ∧ nde.toInt ≤ 24) (b_nhu : 0 ≤ nhu.toInt ∧ nhu.toInt ≤ 9) (b_nra : 0 ≤ nra.toInt ∧ nra.toInt ≤ 2000) (b_nik : 0 ≤ nik.toInt ∧ nik.toInt ≤ 1) (hp_fjc : zRg fjc (0) 99) (hp_gco : zRg gco (0) 99) (hjp : zJP po fp cn kf af tf) (hik : (nik.toInt = 1 → zKp gke)) (hcn : cn.toInt = npu.toInt) (hsz : sz.toInt = nte.toInt) (him : im.toInt = nik.toInt) (hlf : lf.toInt = nfa.toInt) (hkq : (nik.toInt = 1 → kcn.toInt = (gke 107).toInt ∧ ksz.toInt = (gke 108).toInt)) (hT : zTt fzl fzs gla gsl gp nga) (hTk : (nik.toInt = 1 → zTk_ fkzl fkzs gke kgp)) (hKI : zTp kf af tf gki gpa gta hu nhu) (hKk : (nik.toInt = 1 → zTq kkf kaf ktf gke khu)) (hNu : zNu de at_ se tr sd fjc nde nat_ nse nto nsd gco) (hNk : (nik.toInt = 1 → zNk kde kat kse ktr ksd fkc gke)) (b_atsz : at_.toInt ≤ sz.toInt) (nkc nks : Nat) (hkc : nkc ≤ 100 + 40 * (n + 1)) (hks : nks ≤ 10000 + 120 * (n + 1)) (H : Heap) (locs : List Loc) (hP : va_P D vwCl ([(x0, .inr (7, [.ref xs, .ref j0, .ref k0, .ref w0, .ref rd, .ref mv, .ref xr, .int im, .int lf])), (j0, .inr (0, [.ref z0, .ref jp, .ref jc, .int cn, .int de, .int tr, .int se, .int hu, .int sd])), (z0, .inr (6, [.ref zl, .ref zs, .int sz, .int at_, .int gp])), (jc, .inl (cI, 3, .inl fjc)), (xr, .inl (cI, 8, .inl fxr)), (zMO m0 npu nte nat_ nde nto nse nhu nga nsd nfa mrf mki mpa mta mla msl mco mhe mso msi msh mce mca mwo mnu mte nba npl nen nnu nwr mwa mke mma mth mtr nra nik), (mrf, .inl (cI, 8, .inl grf)), (mco, .inl (cI, 3, .inl gco))] ++ (So ++ po.1.map zPo)) H) (hD : va_D (fun q : Nat => s.heap.size ≤ q) ([(x0, .inr (7, [.ref xs, .ref j0, .ref k0, .ref w0, .ref rd, .ref mv, .ref xr, .int im, .int lf])), (j0, .inr (0, [.ref z0, .ref jp, .ref jc, .int cn, .int de, .int tr, .int se, .int hu, .int sd])), (z0, .inr (6, [.ref zl, .ref zs, .int sz, .int at_, .int gp])), (jc, .inl (cI, 3, .inl fjc)), (xr, .inl (cI, 8, .inl fxr)), (zMO m0 npu nte nat_ nde nto nse nhu nga nsd nfa mrf mki mpa mta mla msl mco mhe mso msi msh mce mca mwo mnu mte nba npl nen nnu nwr mwa mke mma mth mtr nra nik), (mrf, .inl (cI, 8, .inl grf)), (mco, .inl (cI, 3, .inl gco))] ++ (So ++ po.1.map zPo))) (hS : va_S (fun q : Nat => s.heap.size ≤ q) s.heap H locs) (ls : Array Slot) (hl : lv_has ls 4 [(3, .int i), (2, .ref m0), (1, .ref x0), (0, .ref b)]), W p l e room_1 s m #[Value.ref b] below meth c H locs nkc nks (lw_Z below #[Value.ref b] s) (F0 m 1370 ls [])) : W p l e room_1 s m #[Value.ref b] below meth c H locs nkc nks (lw_Z below #[Value.ref b] s) (F0 m 682 ls []) := by
  obtain ⟨hx, hb, hr, hml, hown0, hts, hX, hbl, hlocks, hgv⟩ := id C0
  have hown : s.vm.findClass RL = some m.cls := hown0
  have hA : ∀ q : Nat, s.heap.size ≤ q → (fun q : Nat => s.heap.size ≤ q) q := fun _ h => h
  have hbA : ¬ (fun q : Nat => s.heap.size ≤ q) b := Nat.not_le.mpr hbl
  have hga9 : 1 ≤ nga.toInt ∧ nga.toInt ≤ 9 := by (have z := hT.2.2; omega)
  obtain ⟨hNa, hNb, hNc, -⟩ := id hNu
  refine lv_aload_n hx hb dL_law_682 rfl (lv_at hl 2 rfl) ?_
  refine lv_aload_n hx hb dL_law_683 rfl (lv_at hl 3 rfl) ?_
  refine lv_iload_n hx hb dL_law_684 rfl (lv_at hl 0 rfl) ?_
  refine lv_iconst (v := 1) hx hb dL_law_685 (by decide) ?_
  refine lv_iadd hx hb dL_law_686 ?_
  refine lv_topi (fun x_1 ex_1 => ?_)
  have qx_1 : x_1.toInt = i.toInt + 1 := zLadd ex_1 (by decide) (by decide) (by decide) hi6 hn6 hL
  refine va_sld hx hb hX hbl hbA hS (zLin qx_1 (by decide) (by decide) hi6 hn6) dL_law_687 ?_
  refine lv_topi (fun a_3 ea_3 => ?_)
  refine lv_aload_n hx hb dL_law_688 rfl (lv_at hl 3 rfl) ?_
  refine lv_iload_n hx hb dL_law_689 rfl (lv_at hl 0 rfl) ?_
  refine lv_iconst (v := 2) hx hb dL_law_690 (by decide) ?_
  refine lv_iadd hx hb dL_law_691 ?_
  refine lv_topi (fun x_4 ex_4 => ?_)
  have qx_4 : x_4.toInt = i.toInt + 2 := zLadd ex_4 (by decide) (by decide) (by decide) hi6 hn6 hL
  refine va_sld hx hb hX hbl hbA hS (zLin qx_4 (by decide) (by decide) hi6 hn6) dL_law_692 ?_
  refine lv_topi (fun a_6 ea_6 => ?_)
  skip
  refine zt_V (As := [.int a_3, .int a_6]) (rest := []) (ws := [(x0, .inr (7, [.ref xs, .ref j0, .ref k0, .ref w0, .ref rd, .ref mv, .ref xr, .int im, .int lf])), (j0, .inr (0, [.ref z0, .ref jp, .ref jc, .int cn, .int de, .int tr, .int se, .int hu, .int sd])), (z0, .inr (6, [.ref zl, .ref zs, .int sz, .int at_, .int gp])), (jc, .inl (cI, 3, .inl fjc)), (xr, .inl (cI, 8, .inl fxr)), (zMO m0 npu nte nat_ nde nto nse nhu nga nsd nfa mrf mki mpa mta mla msl mco mhe mso msi msh mce mca mwo mnu mte nba npl nen nnu nwr mwa mke mma mth mtr nra nik), (mrf, .inl (cI, 8, .inl grf)), (mco, .inl (cI, 3, .inl gco))]) (wr := [(zMO m0 npu nte nat_ nde nto nse nhu nga nsd nfa mrf mki mpa mta mla msl mco mhe mso msi msh mce mca mwo mnu mte nba npl nen nnu nwr mwa mke mma mth mtr nra nik), (mrf, .inl (cI, 8, .inl grf)), (mco, .inl (cI, 3, .inl gco))]) ⟨hx, hb, hml, hown, hts⟩ (c_F_X_ask l D cI cJ cZ cP cS po x0 xs j0 k0 w0 rd mv xr (im) (lf) fxr j0 jp jc z0 zl zs (cn) (de) (tr) (se) (hu) (sd) (sz) (at_) (gp) fjc (a_3) (a_6) b_im.1 b_im.2 b_lf.1 b_lf.2 b_cn.1 b_cn.2 b_de.1 b_de.2 b_hu.1 b_hu.2 b_sz.1 b_sz.2 b_at_.1 b_at_.2 b_gp.1 b_gp.2 hp_fjc H.size) (cwV 2 hts gq_70 rfl rfl rfl ⟨rfl, dh_X7_ask⟩ ⟨Nat.le_of_ble_eq_true rfl, Nat.le_of_ble_eq_true rfl⟩) hK hN hP hD hS hA [0, 4, 1, 2, 3] [5, 6, 7] rfl rfl (by decide) (by decide) (by decide) (zE_law (isC := [0, 4, 1, 2, 3]) hz1 hz2 hP hD hS hA rfl hpr) (va_recv (q := (RX7, TX7, 9)) hK hP (ci := 7) (q0 := 0) rfl rfl) rfl hl.1 rfl (Nat.le_of_ble_eq_true rfl) dL_law_693 ⟨zRmC hkc hn6 hL (by decide), zRmS hks hn6 hL (by decide)⟩ (fun r_7 u_8 H locs hr_7 hP hD hS => ?_)
  obtain ⟨q_9, q_10, q_11, q_12, q_13, q_14, q_15⟩ := u_8
  try dsimp only at hr_7
  obtain ⟨hbq_9, hbq_11, hbq_12, hbq_13, hpq_14, hsr_7_0, hr_7⟩ := hr_7
  have h9R := zRe (ws' := ([(zMO m0 npu nte nat_ nde nto nse nhu nga nsd nfa mrf mki mpa mta mla msl mco mhe mso msi msh mce mca mwo mnu mte nba npl nen nnu nwr mwa mke mma mth mtr nra nik), (mrf, .inl (cI, 8, .inl grf)), (mco, .inl (cI, 3, .inl gco)), (x0, .inr (7, [.ref xs, .ref j0, .ref k0, .ref w0, .ref rd, .ref mv, .ref xr, .int im, .int lf])), (xr, .inl (cI, 8, .inl q_15)), (j0, .inr (0, [.ref z0, .ref jp, .ref jc, .int cn, .int q_9, .int tr, .int q_10, .int q_11, .int sd])), (z0, .inr (6, [.ref zl, .ref zs, .int sz, .int q_12, .int q_13])), (jc, .inl (cI, 3, .inl q_14))] ++ (So ++ po.1.map zPo))) hP hD rfl
  clear hP hD
  obtain ⟨hP, hD⟩ := h9R
  refine lv_pop hx hb dL_law_696 rfl ?_
  refine lv_aload_n hx hb dL_law_697 rfl (lv_at hl 1 rfl) ?_
  refine lv_aload_n hx hb dL_law_698 rfl (lv_at hl 3 rfl) ?_
  refine lv_iload_n hx hb dL_law_699 rfl (lv_at hl 0 rfl) ?_
  refine lv_iconst (v := 1) hx hb dL_law_700 (by decide) ?_
  refine lv_iadd hx hb dL_law_701 ?_
  refine lv_topi (fun y_16 ey_16 => ?_)
  obtain rfl : x_1 = y_16 := ex_1.trans ey_16.symm
  refine va_sld hx hb hX hbl hbA hS (zLin qx_1 (by decide) (by decide) hi6 hn6) dL_law_702 ?_
  refine lv_topi (fun y_17 ey_17 => ?_)
  obtain rfl : a_3 = y_17 := ea_3.trans ey_17.symm
  refine lv_aload_n hx hb dL_law_703 rfl (lv_at hl 3 rfl) ?_
  refine lv_iload_n hx hb dL_law_704 rfl (lv_at hl 0 rfl) ?_
  refine lv_iconst (v := 2) hx hb dL_law_705 (by decide) ?_
  refine lv_iadd hx hb dL_law_706 ?_
  refine lv_topi (fun y_18 ey_18 => ?_)
  obtain rfl : x_4 = y_18 := ex_4.trans ey_18.symm
  refine va_sld hx hb hX hbl hbA hS (zLin qx_4 (by decide) (by decide) hi6 hn6) dL_law_707 ?_
  refine lv_topi (fun y_19 ey_19 => ?_)
  obtain rfl : a_6 = y_19 := ea_6.trans ey_19.symm
  skip
  refine zt_V (As := [.int a_3, .int a_6]) (rest := []) (ws := [(zMO m0 npu nte nat_ nde nto nse nhu nga nsd nfa mrf mki mpa mta mla msl mco mhe mso msi msh mce mca mwo mnu mte nba npl nen nnu nwr mwa mke mma mth mtr nra nik), (mrf, .inl (cI, 8, .inl grf)), (mco, .inl (cI, 3, .inl gco)), (x0, .inr (7, [.ref xs, .ref j0, .ref k0, .ref w0, .ref rd, .ref mv, .ref xr, .int im, .int lf])), (xr, .inl (cI, 8, .inl q_15)), (j0, .inr (0, [.ref z0, .ref jp, .ref jc, .int cn, .int q_9, .int tr, .int q_10, .int q_11, .int sd])), (z0, .inr (6, [.ref zl, .ref zs, .int sz, .int q_12, .int q_13])), (jc, .inl (cI, 3, .inl q_14))]) (wr := [(x0, .inr (7, [.ref xs, .ref j0, .ref k0, .ref w0, .ref rd, .ref mv, .ref xr, .int im, .int lf])), (xr, .inl (cI, 8, .inl q_15)), (j0, .inr (0, [.ref z0, .ref jp, .ref jc, .int cn, .int q_9, .int tr, .int q_10, .int q_11, .int sd])), (z0, .inr (6, [.ref zl, .ref zs, .int sz, .int q_12, .int q_13])), (jc, .inl (cI, 3, .inl q_14))]) ⟨hx, hb, hml, hown, hts⟩ (c_F_M_ask l D cI cJ cZ cP cS po m0 mrf mki mpa mta mla msl mco mhe mso msi msh mce mca mwo mnu mte mwa mke mma mth mtr (npu) (nte) (nat_) (nde) (nto) (nse) (nhu) (nga) (nsd) (nfa) (nba) (npl) (nen) (nnu) (nwr) (nra) (nik) grf gco (a_3) (a_6) b_npu.1 b_npu.2 b_nte.1 b_nte.2 b_nat_.1 b_nat_.2 b_nde.1 b_nde.2 b_nhu.1 b_nhu.2 b_nra.1 b_nra.2 b_nik.1 b_nik.2 hp_gco H.size) (cwV 2 hts gq_73 rfl rfl rfl ⟨rfl, dh_X8_ask⟩ ⟨Nat.le_of_ble_eq_true rfl, Nat.le_of_ble_eq_true rfl⟩) hK hN hP hD hS hA [0, 1, 2] [3, 4, 5, 6, 7] rfl rfl (by decide) (by decide) (by decide) (zE_law (isC := [0, 1, 2]) hz1 hz2 hP hD hS hA rfl hpr) (va_recv (q := (RX8, TX8, 38)) hK hP (ci := 8) (q0 := 0) rfl rfl) rfl hl.1 rfl (Nat.le_of_ble_eq_true rfl) dL_law_708 ⟨zRmC hkc hn6 hL (by decide), zRmS hks hn6 hL (by decide)⟩ (fun r_20 u_21 H locs hr_20 hP hD hS => ?_)
  obtain ⟨q_22, q_23, q_24, q_25, q_26, q_27, q_28⟩ := u_21
  try dsimp only at hr_20
  obtain ⟨hbq_22, hbq_24, hbq_26, hpq_28, hsr_20_0, hr_20⟩ := hr_20
  have h9R := zRe (ws' := ([(x0, .inr (7, [.ref xs, .ref j0, .ref k0, .ref w0, .ref rd, .ref mv, .ref xr, .int im, .int lf])), (xr, .inl (cI, 8, .inl q_15)), (j0, .inr (0, [.ref z0, .ref jp, .ref jc, .int cn, .int q_9, .int tr, .int q_10, .int q_11, .int sd])), (z0, .inr (6, [.ref zl, .ref zs, .int sz, .int q_12, .int q_13])), (jc, .inl (cI, 3, .inl q_14)), (zMO m0 npu nte q_26 q_22 nto q_23 q_24 q_25 nsd nfa mrf mki mpa mta mla msl mco mhe mso msi msh mce mca mwo mnu mte nba npl nen nnu nwr mwa mke mma mth mtr nra nik), (mrf, .inl (cI, 8, .inl q_27)), (mco, .inl (cI, 3, .inl q_28))] ++ (So ++ po.1.map zPo))) hP hD rfl
  clear hP hD
  obtain ⟨hP, hD⟩ := h9R
  have hT9 := zTt_ask (P := True) (P2 := True) (Q := True) (Q2 := True) hT hsz (hsr_7_0.imp (fun z => ⟨z.1, z.2.1, trivial, z.2.2.1.2.2.2.1, trivial⟩) (fun z => ⟨z.1, z.2.1, z.2.2.2.2.2.1⟩)) (hsr_20_0.imp (fun z => ⟨z.1, z.2.1, trivial, z.2.2.1.2.2.2.1, trivial⟩) (fun z => ⟨z.1, z.2.1, z.2.2.2.2.2.1⟩))
  have hU9 := zTp_ask (P := True) (P2 := True) (Q := True) (Q2 := True) hKI hsz (hsr_7_0.imp (fun z => ⟨z.1, z.2.1, trivial, z.2.2.1.2.2.1, trivial⟩) (fun z => ⟨z.1, z.2.1, z.2.2.2.2.1⟩)) (hsr_20_0.imp (fun z => ⟨z.1, z.2.1, trivial, z.2.2.1.2.2.1, trivial⟩) (fun z => ⟨z.1, z.2.1, z.2.2.2.2.1⟩))
  obtain ⟨hV9, hA, hat9, hse9⟩ := zNu_ask hNu hsz hT.2.2 hKI.2 b_atsz b_se hsr_7_0 hsr_20_0
  refine lv_pop hx hb dL_law_711 rfl ?_
  refine lv_goto (tgt := 1370) hx hb dL_law_712 (by decide) ?_
  exact hnx im lf cn q_9 tr q_10 q_11 sd sz q_12 q_13 npu nte q_26 q_22 nto q_23 q_24 q_25 nsd nfa nba npl nen nnu nwr nra nik q_14 q_15 q_27 q_28 b_im b_lf b_cn hbq_9 (by omega) hbq_11 b_sz hbq_12 hbq_13 b_npu b_nte hbq_26 hbq_22 hbq_24 b_nra b_nik hpq_14 hpq_28 hjp hik hcn hsz him hlf hkq hT9 hTk hU9 hKk hV9 hNk (by omega) _ _ (zRmN hkc) (zRmM hks) H locs (hP.part [0, 2, 3, 4, 1, 5, 6, 7] rfl) (hD.part [0, 2, 3, 4, 1, 5, 6, 7] (by decide +kernel) rfl) hS ls (lv_sub hl [0, 1, 2, 3] rfl)

