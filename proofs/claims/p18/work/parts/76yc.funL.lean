set_option maxHeartbeats 4000000 in
set_option maxRecDepth 100000 in
theorem c_F_M_copy (l : Launch) (D : va_G) (cI cJ cZ cP cS : ClassId) (po : zPool) (m0 mrf mki mpa mta mla msl mco mhe mso msi msh mce mca mwo mnu mte mwa mke mma mth mtr : Nat) (npu nte nat_ nde nto nse nhu nga nsd nfa nba npl nen nnu nwr nra nik : Int32) (grf ghe gso gsi : Nat → Int32) (gce gca : Nat → Int64) (s_ q_ i j n : Int32) (hy0 : 0 ≤ npu.toInt) (hy1 : npu.toInt ≤ 8) (hy2 : 4 ≤ nte.toInt) (hy3 : nte.toInt ≤ 40) (hy4 : 0 ≤ nat_.toInt) (hy5 : nat_.toInt ≤ 40) (hy6 : 0 ≤ nde.toInt) (hy7 : nde.toInt ≤ 24) (hy8 : 0 ≤ nhu.toInt) (hy9 : nhu.toInt ≤ 9) (hy10 : 0 ≤ nra.toInt) (hy11 : nra.toInt ≤ 2000) (hy12 : 0 ≤ nik.toInt) (hy13 : nik.toInt ≤ 1) (hp_ghe : zRg ghe (0) 2) (hp_gso : zRg gso (0) 3) (hp_gsi : zRg gsi (0) 160) (hpz : Nat) : Met l yX8_copy wsX8_copy ({ frames := 1, cells := 0, slots := 0, locals := 21 }) (va_Pc [.ref m0, .int s_, .int q_, .int i, .int j, .int n] (zW D (zKT cI cJ cZ cP cS) po [(zMO m0 npu nte nat_ nde nto nse nhu nga nsd nfa mrf mki mpa mta mla msl mco mhe mso msi msh mce mca mwo mnu mte nba npl nen nnu nwr mwa mke mma mth mtr nra nik), (mrf, .inl (cI, 8, .inl grf)), (mhe, .inl (cI, 8, .inl ghe)), (mso, .inl (cI, 8, .inl gso)), (msi, .inl (cI, 8, .inl gsi)), (mce, .inl (cJ, 1280, .inr (.inl gce))), (mca, .inl (cJ, 160, .inr (.inl gca)))] hpz)) (va_Qi (fun (r : Int32) (u : (Nat → Int32) × (Nat → Int64) × (Nat → Int64)) => (r.toInt = zCopR s_.toInt q_.toInt (zH2 (ghe s_.toNatClampNeg).toInt (gso s_.toNatClampNeg).toInt) (zH2 (ghe q_.toNatClampNeg).toInt (gso q_.toNatClampNeg).toInt) (gsi s_.toNatClampNeg).toInt (gsi q_.toNatClampNeg).toInt i.toInt j.toInt n.toInt) ∧ ((r.toInt = 1 → ∀ m : Nat, u.2.1 m = (if 160 * q_.toInt + j.toInt ≤ (m : Int) ∧ (m : Int) < 160 * q_.toInt + j.toInt + n.toInt then gce (160 * s_.toInt + i.toInt + ((m : Int) - (160 * q_.toInt + j.toInt))).toNat else gce m))) ∧ ((r.toInt ≠ 1 → u.2.1 = gce)) ∧ (True)) (zB D [(zMO m0 npu nte nat_ nde nto nse nhu nga nsd nfa mrf mki mpa mta mla msl mco mhe mso msi msh mce mca mwo mnu mte nba npl nen nnu nwr mwa mke mma mth mtr nra nik), (mrf, .inl (cI, 8, .inl grf)), (mhe, .inl (cI, 8, .inl ghe)), (mso, .inl (cI, 8, .inl gso)), (msi, .inl (cI, 8, .inl gsi)), (mce, .inl (cJ, 1280, .inr (.inl gce))), (mca, .inl (cJ, 160, .inr (.inl gca)))] hpz (fun (u : (Nat → Int32) × (Nat → Int64) × (Nat → Int64)) => [(zMO m0 npu nte nat_ nde nto nse nhu nga nsd nfa mrf mki mpa mta mla msl mco mhe mso msi msh mce mca mwo mnu mte nba npl nen nnu nwr mwa mke mma mth mtr nra nik), (mrf, .inl (cI, 8, .inl u.1)), (mhe, .inl (cI, 8, .inl ghe)), (mso, .inl (cI, 8, .inl gso)), (msi, .inl (cI, 8, .inl gsi)), (mce, .inl (cJ, 1280, .inr (.inl u.2.1))), (mca, .inl (cJ, 160, .inr (.inl u.2.2)))])) (va_A [(zMO m0 npu nte nat_ nde nto nse nhu nga nsd nfa mrf mki mpa mta mla msl mco mhe mso msi msh mce mca mwo mnu mte nba npl nen nnu nwr mwa mke mma mth mtr nra nik), (mrf, .inl (cI, 8, .inl grf)), (mhe, .inl (cI, 8, .inl ghe)), (mso, .inl (cI, 8, .inl gso)), (msi, .inl (cI, 8, .inl gsi)), (mce, .inl (cJ, 1280, .inr (.inl gce))), (mca, .inl (cJ, 160, .inr (.inl gca)))] hpz)) 0 0 (va_A [(zMO m0 npu nte nat_ nde nto nse nhu nga nsd nfa mrf mki mpa mta mla msl mco mhe mso msi msh mce mca mwo mnu mte nba npl nen nnu nwr mwa mke mma mth mtr nra nik), (mrf, .inl (cI, 8, .inl grf)), (mhe, .inl (cI, 8, .inl ghe)), (mso, .inl (cI, 8, .inl gso)), (msi, .inl (cI, 8, .inl gsi)), (mce, .inl (cJ, 1280, .inr (.inl gce))), (mca, .inl (cJ, 160, .inr (.inl gca)))] hpz) := by
  refine Met.ofW (cc := cX8_copy) (maxL := 7) (ret := (some .int)) (by decide) rfl ?_
  intro p e s m args below meth c s₁ B hml hv
  obtain ⟨rfl, hsz, hP, hK, hD0, hN, hZ⟩ := hv
  have hx := B.exec
  have hb := B.bytes
  have hr := B.returns
  have hts := atoms_spec (ws := wsX8_copy) B.pre
  have hown : s.vm.findClass RX8 = some m.cls := findClass_of_methodNamed B.named
  have hlocks := B.notSynchronized
  subst hsz
  have hD := hD0.self (sz := s.heap.size)
  have hA := zA_of hD
  have hl := lv_entry ([.ref m0, .int s_, .int q_, .int i, .int j, .int n]) (n := 7) (Nat.le_of_ble_eq_true rfl)
  rw [lg_entry_eq]
  generalize (lg_sl ([.ref m0, .int s_, .int q_, .int i, .int j, .int n]) ++ List.replicate (7 - (lg_sl ([.ref m0, .int s_, .int q_, .int i, .int j, .int n])).length) Slot.unset).toArray = ls at hl ⊢
  replace hl : lv_has ls 7 [(0, .ref m0), (1, .int s_), (2, .int q_), (3, .int i), (4, .int j), (5, .int n)] := hl
  refine zw_begin hP hD (fun H locs hP1 hS => ?_)
  clear hP
  have hP := hP1
  clear hP1
  refine zcut (T := fun K => ∀ (H : Heap) (locs : List Loc) (ls : Array Slot) (hP : va_P D vwCl [(zMO m0 npu nte nat_ nde nto nse nhu nga nsd nfa mrf mki mpa mta mla msl mco mhe mso msi msh mce mca mwo mnu mte nba npl nen nnu nwr mwa mke mma mth mtr nra nik), (mrf, .inl (cI, 8, .inl grf)), (mhe, .inl (cI, 8, .inl ghe)), (mso, .inl (cI, 8, .inl gso)), (msi, .inl (cI, 8, .inl gsi)), (mce, .inl (cJ, 1280, .inr (.inl gce))), (mca, .inl (cJ, 160, .inr (.inl gca)))] H) (hD : va_D (va_A [(zMO m0 npu nte nat_ nde nto nse nhu nga nsd nfa mrf mki mpa mta mla msl mco mhe mso msi msh mce mca mwo mnu mte nba npl nen nnu nwr mwa mke mma mth mtr nra nik), (mrf, .inl (cI, 8, .inl grf)), (mhe, .inl (cI, 8, .inl ghe)), (mso, .inl (cI, 8, .inl gso)), (msi, .inl (cI, 8, .inl gsi)), (mce, .inl (cJ, 1280, .inr (.inl gce))), (mca, .inl (cJ, 160, .inr (.inl gca)))] s.heap.size) [(zMO m0 npu nte nat_ nde nto nse nhu nga nsd nfa mrf mki mpa mta mla msl mco mhe mso msi msh mce mca mwo mnu mte nba npl nen nnu nwr mwa mke mma mth mtr nra nik), (mrf, .inl (cI, 8, .inl grf)), (mhe, .inl (cI, 8, .inl ghe)), (mso, .inl (cI, 8, .inl gso)), (msi, .inl (cI, 8, .inl gsi)), (mce, .inl (cJ, 1280, .inr (.inl gce))), (mca, .inl (cJ, 160, .inr (.inl gca)))]) (hS : va_S (va_A [(zMO m0 npu nte nat_ nde nto nse nhu nga nsd nfa mrf mki mpa mta mla msl mco mhe mso msi msh mce mca mwo mnu mte nba npl nen nnu nwr mwa mke mma mth mtr nra nik), (mrf, .inl (cI, 8, .inl grf)), (mhe, .inl (cI, 8, .inl ghe)), (mso, .inl (cI, 8, .inl gso)), (msi, .inl (cI, 8, .inl gsi)), (mce, .inl (cJ, 1280, .inr (.inl gce))), (mca, .inl (cJ, 160, .inr (.inl gca)))] s.heap.size) s.heap H locs) (hl : lv_has ls 7 [(0, .ref m0), (1, .int s_), (2, .int q_), (3, .int i), (4, .int j), (5, .int n)]) (hf164_0 : (0 ≤ s_.toInt ∧ s_.toInt ≤ 7) ∧ (0 ≤ q_.toInt ∧ q_.toInt ≤ 7) ∧ 0 ≤ n.toInt ∧ 0 ≤ i.toInt ∧ 0 ≤ j.toInt ∧ i.toInt + n.toInt ≤ 160 ∧ j.toInt + n.toInt ≤ 160) (hf164_1 : zCopR s_.toInt q_.toInt (zH2 (ghe s_.toNatClampNeg).toInt (gso s_.toNatClampNeg).toInt) (zH2 (ghe q_.toNatClampNeg).toInt (gso q_.toNatClampNeg).toInt) (gsi s_.toNatClampNeg).toInt (gsi q_.toNatClampNeg).toInt i.toInt j.toInt n.toInt = 1), K H locs ls) (pc := 164) ?_ (fun hcut164 => ?_)
  · intro H locs ls hP hD hS hl hf164_0 hf164_1
    refine lv_iconst (v := 0) hx hb dX8_copy_164 (by decide) ?_
    refine lv_istore (lv' := [(6, .int 0), (0, .ref m0), (1, .int s_), (2, .int q_), (3, .int i), (4, .int j), (5, .int n)]) hx hb dX8_copy_165 hl (by decide) rfl (fun ls hl => ?_)
    obtain ⟨i_167, hi_167⟩ : ∃ i : Int32, i = 0 := ⟨_, rfl⟩
    replace hl : lv_has ls 7 [(6, .int i_167), (0, .ref m0), (1, .int s_), (2, .int q_), (3, .int i), (4, .int j), (5, .int n)] := by rw [hi_167]; exact lv_sub hl [0, 1, 2, 3, 4, 5, 6] rfl
    have h1i_167 : i_167.toInt = 0 := by rw [hi_167]; decide
    obtain ⟨nfu, hni_167⟩ : ∃ nq9 : Nat, n.toInt ≤ i_167.toInt + (nq9 : Int) := ⟨((n.toInt : Int) - 0).toNat, by omega⟩
    have hloi_167 : 0 ≤ i_167.toInt := by omega
    obtain ⟨g_1, hg_1⟩ : ∃ g : Nat → Int64, g = gca := ⟨_, rfl⟩
    replace hP : va_P D vwCl [(zMO m0 npu nte nat_ nde nto nse nhu nga nsd nfa mrf mki mpa mta mla msl mco mhe mso msi msh mce mca mwo mnu mte nba npl nen nnu nwr mwa mke mma mth mtr nra nik), (mrf, .inl (cI, 8, .inl grf)), (mhe, .inl (cI, 8, .inl ghe)), (mso, .inl (cI, 8, .inl gso)), (msi, .inl (cI, 8, .inl gsi)), (mce, .inl (cJ, 1280, .inr (.inl gce))), (mca, .inl (cJ, 160, .inr (.inl g_1)))] H := by rw [hg_1]; exact hP
    replace hD : va_D (va_A [(zMO m0 npu nte nat_ nde nto nse nhu nga nsd nfa mrf mki mpa mta mla msl mco mhe mso msi msh mce mca mwo mnu mte nba npl nen nnu nwr mwa mke mma mth mtr nra nik), (mrf, .inl (cI, 8, .inl grf)), (mhe, .inl (cI, 8, .inl ghe)), (mso, .inl (cI, 8, .inl gso)), (msi, .inl (cI, 8, .inl gsi)), (mce, .inl (cJ, 1280, .inr (.inl gce))), (mca, .inl (cJ, 160, .inr (.inl gca)))] s.heap.size) [(zMO m0 npu nte nat_ nde nto nse nhu nga nsd nfa mrf mki mpa mta mla msl mco mhe mso msi msh mce mca mwo mnu mte nba npl nen nnu nwr mwa mke mma mth mtr nra nik), (mrf, .inl (cI, 8, .inl grf)), (mhe, .inl (cI, 8, .inl ghe)), (mso, .inl (cI, 8, .inl gso)), (msi, .inl (cI, 8, .inl gsi)), (mce, .inl (cJ, 1280, .inr (.inl gce))), (mca, .inl (cJ, 160, .inr (.inl g_1)))] := by rw [hg_1]; exact hD
    have hvi_167_0 : (∀ k : Nat, (k : Int) < i_167.toInt → g_1 k = gce (160 * s_.toInt + i.toInt + (k : Int)).toNat) := by
      (try rw [hi_167]); (try rw [hg_1]); (intro k hk; exfalso; have k0 : (0 : Int32).toInt = 0 := (by decide); omega)
    have hvi_167_1 : i_167.toInt ≤ n.toInt := by
      (try rw [hi_167]); (try rw [hg_1]); first | omega | (simp; omega)
    clear h1i_167 hi_167 hg_1
    skip
    revert hni_167
    revert hloi_167
    revert hvi_167_1
    revert hvi_167_0
    revert hl
    revert hS
    revert hD
    revert hP
    revert ls
    revert locs
    revert H
    revert g_1
    revert i_167
    induction nfu with
    | zero =>
      intro i_167 g_1 H locs ls hP hD hS hl hvi_167_0 hvi_167_1 hloi_167 hni_167
      have hzi_167 : n.toInt ≤ i_167.toInt := by omega
      refine lv_iload hx hb dX8_copy_167 (lv_at hl 0 rfl) ?_
      refine lv_iload hx hb dX8_copy_169 (lv_at hl 6 rfl) ?_
      refine lv_icmp_ge (tgt := 202) hx hb dX8_copy_171 (by decide) (fun c_2 => ?_) (fun c_2 => ?_)
      · have fc_2 : n.toInt ≤ i_167.toInt := zf_le c_2 rfl rfl
        refine lv_iconst (v := 0) hx hb dX8_copy_202 (by decide) ?_
        refine lv_istore (lv' := [(6, .int 0), (0, .ref m0), (1, .int s_), (2, .int q_), (3, .int i), (4, .int j), (5, .int n)]) hx hb dX8_copy_203 hl (by decide) rfl (fun ls hl => ?_)
        obtain ⟨i_205, hi_205⟩ : ∃ i : Int32, i = 0 := ⟨_, rfl⟩
        replace hl : lv_has ls 7 [(6, .int i_205), (0, .ref m0), (1, .int s_), (2, .int q_), (3, .int i), (4, .int j), (5, .int n)] := by rw [hi_205]; exact lv_sub hl [0, 1, 2, 3, 4, 5, 6] rfl
        have h1i_205 : i_205.toInt = 0 := by rw [hi_205]; decide
        obtain ⟨nfu_205, hni_205⟩ : ∃ nq9 : Nat, n.toInt ≤ i_205.toInt + (nq9 : Int) := ⟨((n.toInt : Int) - 0).toNat, by omega⟩
        have hloi_205 : 0 ≤ i_205.toInt := by omega
        obtain ⟨g_3, hg_3⟩ : ∃ g : Nat → Int64, g = gce := ⟨_, rfl⟩
        replace hP : va_P D vwCl [(zMO m0 npu nte nat_ nde nto nse nhu nga nsd nfa mrf mki mpa mta mla msl mco mhe mso msi msh mce mca mwo mnu mte nba npl nen nnu nwr mwa mke mma mth mtr nra nik), (mrf, .inl (cI, 8, .inl grf)), (mhe, .inl (cI, 8, .inl ghe)), (mso, .inl (cI, 8, .inl gso)), (msi, .inl (cI, 8, .inl gsi)), (mce, .inl (cJ, 1280, .inr (.inl g_3))), (mca, .inl (cJ, 160, .inr (.inl g_1)))] H := by rw [hg_3]; exact hP
        replace hD : va_D (va_A [(zMO m0 npu nte nat_ nde nto nse nhu nga nsd nfa mrf mki mpa mta mla msl mco mhe mso msi msh mce mca mwo mnu mte nba npl nen nnu nwr mwa mke mma mth mtr nra nik), (mrf, .inl (cI, 8, .inl grf)), (mhe, .inl (cI, 8, .inl ghe)), (mso, .inl (cI, 8, .inl gso)), (msi, .inl (cI, 8, .inl gsi)), (mce, .inl (cJ, 1280, .inr (.inl gce))), (mca, .inl (cJ, 160, .inr (.inl gca)))] s.heap.size) [(zMO m0 npu nte nat_ nde nto nse nhu nga nsd nfa mrf mki mpa mta mla msl mco mhe mso msi msh mce mca mwo mnu mte nba npl nen nnu nwr mwa mke mma mth mtr nra nik), (mrf, .inl (cI, 8, .inl grf)), (mhe, .inl (cI, 8, .inl ghe)), (mso, .inl (cI, 8, .inl gso)), (msi, .inl (cI, 8, .inl gsi)), (mce, .inl (cJ, 1280, .inr (.inl g_3))), (mca, .inl (cJ, 160, .inr (.inl g_1)))] := by rw [hg_3]; exact hD
        have hvi_205_0 : (∀ m : Nat, g_3 m = (if 160 * q_.toInt + j.toInt ≤ (m : Int) ∧ (m : Int) < 160 * q_.toInt + j.toInt + i_205.toInt then gce (160 * s_.toInt + i.toInt + ((m : Int) - (160 * q_.toInt + j.toInt))).toNat else gce m)) := by
          (try rw [hi_205]); (try rw [hg_3]); (intro m; rw [if_neg (by have k0 : (0 : Int32).toInt = 0 := (by decide); omega)])
        have hvi_205_1 : i_205.toInt ≤ n.toInt := by
          (try rw [hi_205]); (try rw [hg_3]); first | omega | (simp; omega)
        clear h1i_205 hi_205 hg_3
        skip
        revert hni_205
        revert hloi_205
        revert hvi_205_1
        revert hvi_205_0
        revert hl
        revert hS
        revert hD
        revert hP
        revert ls
        revert locs
        revert H
        revert g_3
        revert i_205
        induction nfu_205 with
        | zero =>
          intro i_205 g_3 H locs ls hP hD hS hl hvi_205_0 hvi_205_1 hloi_205 hni_205
          have hzi_205 : n.toInt ≤ i_205.toInt := by omega
          refine lv_iload hx hb dX8_copy_205 (lv_at hl 0 rfl) ?_
          refine lv_iload hx hb dX8_copy_207 (lv_at hl 6 rfl) ?_
          refine lv_icmp_ge (tgt := 241) hx hb dX8_copy_209 (by decide) (fun c_4 => ?_) (fun c_4 => ?_)
          · have fc_4 : n.toInt ≤ i_205.toInt := zf_le c_4 rfl rfl
            refine lv_iconst (v := 1) hx hb dX8_copy_241 (by decide) ?_
            exact W.iret (v := 1) hx hb hr (fun t ht hW => ⟨⟨1, (grf, g_3, g_1), rfl, ⟨(show (1 : Int32).toInt = zCopR s_.toInt q_.toInt (zH2 (ghe s_.toNatClampNeg).toInt (gso s_.toNatClampNeg).toInt) (zH2 (ghe q_.toNatClampNeg).toInt (gso q_.toNatClampNeg).toInt) (gsi s_.toNatClampNeg).toInt (gsi q_.toNatClampNeg).toInt i.toInt j.toInt n.toInt from by (rw [hf164_1]; decide)), (show ((1 : Int32).toInt = 1 → ∀ m : Nat, g_3 m = (if 160 * q_.toInt + j.toInt ≤ (m : Int) ∧ (m : Int) < 160 * q_.toInt + j.toInt + n.toInt then gce (160 * s_.toInt + i.toInt + ((m : Int) - (160 * q_.toInt + j.toInt))).toNat else gce m)) from by (have k9 : (1 : Int32).toInt = 1 := (by decide); intro h; exact (fun m => by (have h9 : i_205.toInt = n.toInt := (by omega); have z := hvi_205_0 m; rw [h9] at z; exact z)))), (show ((1 : Int32).toInt ≠ 1 → g_3 = gce) from by (have k9 : (1 : Int32).toInt = 1 := (by decide); intro h; exfalso; omega)), trivial⟩, zRet ht hP hD [0, 1, 2, 3, 4, 5, 6] (by decide) rfl⟩, hS.F ht⟩) hS.2.2 dX8_copy_242
          · exfalso; have fc_4 : i_205.toInt < n.toInt := zf_nle c_4 rfl rfl; omega
        | succ nfu_205 ih_205 =>
          intro i_205 g_3 H locs ls hP hD hS hl hvi_205_0 hvi_205_1 hloi_205 hni_205
          refine lv_iload hx hb dX8_copy_205 (lv_at hl 0 rfl) ?_
          refine lv_iload hx hb dX8_copy_207 (lv_at hl 6 rfl) ?_
          refine lv_icmp_ge (tgt := 241) hx hb dX8_copy_209 (by decide) (fun c_5 => ?_) (fun c_5 => ?_)
          · have fc_5 : n.toInt ≤ i_205.toInt := zf_le c_5 rfl rfl
            refine lv_iconst (v := 1) hx hb dX8_copy_241 (by decide) ?_
            exact W.iret (v := 1) hx hb hr (fun t ht hW => ⟨⟨1, (grf, g_3, g_1), rfl, ⟨(show (1 : Int32).toInt = zCopR s_.toInt q_.toInt (zH2 (ghe s_.toNatClampNeg).toInt (gso s_.toNatClampNeg).toInt) (zH2 (ghe q_.toNatClampNeg).toInt (gso q_.toNatClampNeg).toInt) (gsi s_.toNatClampNeg).toInt (gsi q_.toNatClampNeg).toInt i.toInt j.toInt n.toInt from by (rw [hf164_1]; decide)), (show ((1 : Int32).toInt = 1 → ∀ m : Nat, g_3 m = (if 160 * q_.toInt + j.toInt ≤ (m : Int) ∧ (m : Int) < 160 * q_.toInt + j.toInt + n.toInt then gce (160 * s_.toInt + i.toInt + ((m : Int) - (160 * q_.toInt + j.toInt))).toNat else gce m)) from by (have k9 : (1 : Int32).toInt = 1 := (by decide); intro h; exact (fun m => by (have h9 : i_205.toInt = n.toInt := (by omega); have z := hvi_205_0 m; rw [h9] at z; exact z)))), (show ((1 : Int32).toInt ≠ 1 → g_3 = gce) from by (have k9 : (1 : Int32).toInt = 1 := (by decide); intro h; exfalso; omega)), trivial⟩, zRet ht hP hD [0, 1, 2, 3, 4, 5, 6] (by decide) rfl⟩, hS.F ht⟩) hS.2.2 dX8_copy_242
          · have fc_5 : i_205.toInt < n.toInt := zf_nle c_5 rfl rfl
            refine lv_aload_n hx hb dX8_copy_212 rfl (lv_at hl 1 rfl) ?_
            refine va_get (D := D) (ci := 8) (v := .ref mce) (C := RX8) (T := TX8) (N := 38) hx hb hts hi_X8_copy_8 hown hK hP 0 rfl rfl 21 (by decide) (hts (.fieldLink RX8 59 "TheLiningsInItModel" "cells" "[J") (List.mem_of_getElem? (i := 5) rfl)) (fun _ h9 => h9) rfl dX8_copy_213 ?_
            refine lv_sipush (v := 160) hx hb dX8_copy_216 (by decide) ?_
            refine lv_iload_n hx hb dX8_copy_219 rfl (lv_at hl 3 rfl) ?_
            refine lv_imul hx hb dX8_copy_220 ?_
            refine lv_topi (fun x_6 ex_6 => ?_)
            have qx_6 : x_6.toInt = 160 * q_.toInt := by rw [ex_6]; exact zf_mul (by decide) rfl (by omega) (by omega)
            refine lv_iload hx hb dX8_copy_221 (lv_at hl 5 rfl) ?_
            refine lv_iadd hx hb dX8_copy_223 ?_
            refine lv_topi (fun x_7 ex_7 => ?_)
            have qx_7 : x_7.toInt = x_6.toInt + j.toInt := by rw [ex_7]; exact zf_add rfl rfl (by omega) (by omega)
            refine lv_iload hx hb dX8_copy_224 (lv_at hl 0 rfl) ?_
            refine lv_iadd hx hb dX8_copy_226 ?_
            refine lv_topi (fun x_8 ex_8 => ?_)
            have qx_8 : x_8.toInt = x_7.toInt + i_205.toInt := by rw [ex_8]; exact zf_add rfl rfl (by omega) (by omega)
            refine lv_aload_n hx hb dX8_copy_227 rfl (lv_at hl 1 rfl) ?_
            refine va_get (D := D) (ci := 8) (v := .ref mca) (C := RX8) (T := TX8) (N := 38) hx hb hts hi_X8_copy_8 hown hK hP 0 rfl rfl 22 (by decide) (hts (.fieldLink RX8 63 "TheLiningsInItModel" "carried" "[J") (List.mem_of_getElem? (i := 4) rfl)) (fun _ h9 => h9) rfl dX8_copy_228 ?_
            refine lv_iload hx hb dX8_copy_231 (lv_at hl 0 rfl) ?_
            refine va_lald hx hb hK hP 6 1 rfl rfl (zf_in (by omega) (by omega)) dX8_copy_233 ?_
            refine lv_topl (fun x_9 ex_9 => ?_)
            refine va_last hx hb hK hP hD hS 5 1 rfl rfl (zf_in (by omega) (by omega)) dX8_copy_234 (fun H locs hP hD hS => ?_)
            obtain ⟨g_10, hg_10⟩ : ∃ g : Nat → Int64, g = vp_updL g_3 x_8.toNatClampNeg x_9 := ⟨_, rfl⟩
            rw [← hg_10] at hP hD
            have h9R := zRe (ws' := [(zMO m0 npu nte nat_ nde nto nse nhu nga nsd nfa mrf mki mpa mta mla msl mco mhe mso msi msh mce mca mwo mnu mte nba npl nen nnu nwr mwa mke mma mth mtr nra nik), (mrf, .inl (cI, 8, .inl grf)), (mhe, .inl (cI, 8, .inl ghe)), (mso, .inl (cI, 8, .inl gso)), (msi, .inl (cI, 8, .inl gsi)), (mce, .inl (cJ, 1280, .inr (.inl g_10))), (mca, .inl (cJ, 160, .inr (.inl g_1)))]) hP hD rfl
            clear hP hD
            obtain ⟨hP, hD⟩ := h9R
            obtain ⟨x_11, ex_11⟩ : ∃ y : Int32, y = i_205 + 1 := ⟨_, rfl⟩
            have qx_11 : x_11.toInt = i_205.toInt + 1 := dw_inc ex_11 fc_5
            refine lv_iinc (v := x_11) (lv' := [(6, .int x_11), (0, .ref m0), (1, .int s_), (2, .int q_), (3, .int i), (4, .int j), (5, .int n)]) hx hb dX8_copy_235 hl (k := 0) rfl ex_11.symm (by decide) rfl (fun ls hl => ?_)
            refine lv_goto (tgt := 205) hx hb dX8_copy_238 (by decide) ?_
            exact ih_205 x_11 (g_10) _ _ _ (hP.sub [0, 1, 2, 3, 4, 5, 6] rfl) (hD.sub [0, 1, 2, 3, 4, 5, 6] (by decide) rfl) hS (lv_sub hl [0, 1, 2, 3, 4, 5, 6] rfl) (show (∀ m : Nat, g_10 m = (if 160 * q_.toInt + j.toInt ≤ (m : Int) ∧ (m : Int) < 160 * q_.toInt + j.toInt + x_11.toInt then gce (160 * s_.toInt + i.toInt + ((m : Int) - (160 * q_.toInt + j.toInt))).toNat else gce m)) from by (intro m; rw [hg_10]; simp only [vp_updL]; have h7 : x_8.toNatClampNeg = x_8.toInt.toNat := rfl; have h6 : i_205.toNatClampNeg = i_205.toInt.toNat := rfl; by_cases e9 : m = x_8.toNatClampNeg; (rw [if_pos e9, if_pos (by omega), ex_9, hvi_167_0 _ (by omega)]; congr 2; omega); (rw [if_neg e9, hvi_205_0 m]; by_cases e8 : 160 * q_.toInt + j.toInt ≤ (m : Int) ∧ (m : Int) < 160 * q_.toInt + j.toInt + i_205.toInt; (rw [if_pos e8, if_pos (by omega)]); (rw [if_neg e8, if_neg (by omega)])))) (show x_11.toInt ≤ n.toInt from by omega) (dw_lo hloi_205 qx_11) (dw_hn hni_205 qx_11)
      · exfalso; have fc_2 : i_167.toInt < n.toInt := zf_nle c_2 rfl rfl; omega
    | succ nfu ih =>
      intro i_167 g_1 H locs ls hP hD hS hl hvi_167_0 hvi_167_1 hloi_167 hni_167
      refine lv_iload hx hb dX8_copy_167 (lv_at hl 0 rfl) ?_
      refine lv_iload hx hb dX8_copy_169 (lv_at hl 6 rfl) ?_
      refine lv_icmp_ge (tgt := 202) hx hb dX8_copy_171 (by decide) (fun c_12 => ?_) (fun c_12 => ?_)
      · have fc_12 : n.toInt ≤ i_167.toInt := zf_le c_12 rfl rfl
        refine lv_iconst (v := 0) hx hb dX8_copy_202 (by decide) ?_
        refine lv_istore (lv' := [(6, .int 0), (0, .ref m0), (1, .int s_), (2, .int q_), (3, .int i), (4, .int j), (5, .int n)]) hx hb dX8_copy_203 hl (by decide) rfl (fun ls hl => ?_)
        obtain ⟨i_205, hi_205⟩ : ∃ i : Int32, i = 0 := ⟨_, rfl⟩
        replace hl : lv_has ls 7 [(6, .int i_205), (0, .ref m0), (1, .int s_), (2, .int q_), (3, .int i), (4, .int j), (5, .int n)] := by rw [hi_205]; exact lv_sub hl [0, 1, 2, 3, 4, 5, 6] rfl
        have h1i_205 : i_205.toInt = 0 := by rw [hi_205]; decide
        obtain ⟨nfu_205, hni_205⟩ : ∃ nq9 : Nat, n.toInt ≤ i_205.toInt + (nq9 : Int) := ⟨((n.toInt : Int) - 0).toNat, by omega⟩
        have hloi_205 : 0 ≤ i_205.toInt := by omega
        obtain ⟨g_13, hg_13⟩ : ∃ g : Nat → Int64, g = gce := ⟨_, rfl⟩
        replace hP : va_P D vwCl [(zMO m0 npu nte nat_ nde nto nse nhu nga nsd nfa mrf mki mpa mta mla msl mco mhe mso msi msh mce mca mwo mnu mte nba npl nen nnu nwr mwa mke mma mth mtr nra nik), (mrf, .inl (cI, 8, .inl grf)), (mhe, .inl (cI, 8, .inl ghe)), (mso, .inl (cI, 8, .inl gso)), (msi, .inl (cI, 8, .inl gsi)), (mce, .inl (cJ, 1280, .inr (.inl g_13))), (mca, .inl (cJ, 160, .inr (.inl g_1)))] H := by rw [hg_13]; exact hP
        replace hD : va_D (va_A [(zMO m0 npu nte nat_ nde nto nse nhu nga nsd nfa mrf mki mpa mta mla msl mco mhe mso msi msh mce mca mwo mnu mte nba npl nen nnu nwr mwa mke mma mth mtr nra nik), (mrf, .inl (cI, 8, .inl grf)), (mhe, .inl (cI, 8, .inl ghe)), (mso, .inl (cI, 8, .inl gso)), (msi, .inl (cI, 8, .inl gsi)), (mce, .inl (cJ, 1280, .inr (.inl gce))), (mca, .inl (cJ, 160, .inr (.inl gca)))] s.heap.size) [(zMO m0 npu nte nat_ nde nto nse nhu nga nsd nfa mrf mki mpa mta mla msl mco mhe mso msi msh mce mca mwo mnu mte nba npl nen nnu nwr mwa mke mma mth mtr nra nik), (mrf, .inl (cI, 8, .inl grf)), (mhe, .inl (cI, 8, .inl ghe)), (mso, .inl (cI, 8, .inl gso)), (msi, .inl (cI, 8, .inl gsi)), (mce, .inl (cJ, 1280, .inr (.inl g_13))), (mca, .inl (cJ, 160, .inr (.inl g_1)))] := by rw [hg_13]; exact hD
        have hvi_205_0 : (∀ m : Nat, g_13 m = (if 160 * q_.toInt + j.toInt ≤ (m : Int) ∧ (m : Int) < 160 * q_.toInt + j.toInt + i_205.toInt then gce (160 * s_.toInt + i.toInt + ((m : Int) - (160 * q_.toInt + j.toInt))).toNat else gce m)) := by
          (try rw [hi_205]); (try rw [hg_13]); (intro m; rw [if_neg (by have k0 : (0 : Int32).toInt = 0 := (by decide); omega)])
        have hvi_205_1 : i_205.toInt ≤ n.toInt := by
          (try rw [hi_205]); (try rw [hg_13]); first | omega | (simp; omega)
        clear h1i_205 hi_205 hg_13
        skip
        revert hni_205
        revert hloi_205
        revert hvi_205_1
        revert hvi_205_0
        revert hl
        revert hS
        revert hD
        revert hP
        revert ls
        revert locs
        revert H
        revert g_13
        revert i_205
        induction nfu_205 with
        | zero =>
          intro i_205 g_13 H locs ls hP hD hS hl hvi_205_0 hvi_205_1 hloi_205 hni_205
          have hzi_205 : n.toInt ≤ i_205.toInt := by omega
          refine lv_iload hx hb dX8_copy_205 (lv_at hl 0 rfl) ?_
          refine lv_iload hx hb dX8_copy_207 (lv_at hl 6 rfl) ?_
          refine lv_icmp_ge (tgt := 241) hx hb dX8_copy_209 (by decide) (fun c_14 => ?_) (fun c_14 => ?_)
          · have fc_14 : n.toInt ≤ i_205.toInt := zf_le c_14 rfl rfl
            refine lv_iconst (v := 1) hx hb dX8_copy_241 (by decide) ?_
            exact W.iret (v := 1) hx hb hr (fun t ht hW => ⟨⟨1, (grf, g_13, g_1), rfl, ⟨(show (1 : Int32).toInt = zCopR s_.toInt q_.toInt (zH2 (ghe s_.toNatClampNeg).toInt (gso s_.toNatClampNeg).toInt) (zH2 (ghe q_.toNatClampNeg).toInt (gso q_.toNatClampNeg).toInt) (gsi s_.toNatClampNeg).toInt (gsi q_.toNatClampNeg).toInt i.toInt j.toInt n.toInt from by (rw [hf164_1]; decide)), (show ((1 : Int32).toInt = 1 → ∀ m : Nat, g_13 m = (if 160 * q_.toInt + j.toInt ≤ (m : Int) ∧ (m : Int) < 160 * q_.toInt + j.toInt + n.toInt then gce (160 * s_.toInt + i.toInt + ((m : Int) - (160 * q_.toInt + j.toInt))).toNat else gce m)) from by (have k9 : (1 : Int32).toInt = 1 := (by decide); intro h; exact (fun m => by (have h9 : i_205.toInt = n.toInt := (by omega); have z := hvi_205_0 m; rw [h9] at z; exact z)))), (show ((1 : Int32).toInt ≠ 1 → g_13 = gce) from by (have k9 : (1 : Int32).toInt = 1 := (by decide); intro h; exfalso; omega)), trivial⟩, zRet ht hP hD [0, 1, 2, 3, 4, 5, 6] (by decide) rfl⟩, hS.F ht⟩) hS.2.2 dX8_copy_242
          · exfalso; have fc_14 : i_205.toInt < n.toInt := zf_nle c_14 rfl rfl; omega
        | succ nfu_205 ih_205 =>
          intro i_205 g_13 H locs ls hP hD hS hl hvi_205_0 hvi_205_1 hloi_205 hni_205
          refine lv_iload hx hb dX8_copy_205 (lv_at hl 0 rfl) ?_
          refine lv_iload hx hb dX8_copy_207 (lv_at hl 6 rfl) ?_
          refine lv_icmp_ge (tgt := 241) hx hb dX8_copy_209 (by decide) (fun c_15 => ?_) (fun c_15 => ?_)
          · have fc_15 : n.toInt ≤ i_205.toInt := zf_le c_15 rfl rfl
            refine lv_iconst (v := 1) hx hb dX8_copy_241 (by decide) ?_
            exact W.iret (v := 1) hx hb hr (fun t ht hW => ⟨⟨1, (grf, g_13, g_1), rfl, ⟨(show (1 : Int32).toInt = zCopR s_.toInt q_.toInt (zH2 (ghe s_.toNatClampNeg).toInt (gso s_.toNatClampNeg).toInt) (zH2 (ghe q_.toNatClampNeg).toInt (gso q_.toNatClampNeg).toInt) (gsi s_.toNatClampNeg).toInt (gsi q_.toNatClampNeg).toInt i.toInt j.toInt n.toInt from by (rw [hf164_1]; decide)), (show ((1 : Int32).toInt = 1 → ∀ m : Nat, g_13 m = (if 160 * q_.toInt + j.toInt ≤ (m : Int) ∧ (m : Int) < 160 * q_.toInt + j.toInt + n.toInt then gce (160 * s_.toInt + i.toInt + ((m : Int) - (160 * q_.toInt + j.toInt))).toNat else gce m)) from by (have k9 : (1 : Int32).toInt = 1 := (by decide); intro h; exact (fun m => by (have h9 : i_205.toInt = n.toInt := (by omega); have z := hvi_205_0 m; rw [h9] at z; exact z)))), (show ((1 : Int32).toInt ≠ 1 → g_13 = gce) from by (have k9 : (1 : Int32).toInt = 1 := (by decide); intro h; exfalso; omega)), trivial⟩, zRet ht hP hD [0, 1, 2, 3, 4, 5, 6] (by decide) rfl⟩, hS.F ht⟩) hS.2.2 dX8_copy_242
          · have fc_15 : i_205.toInt < n.toInt := zf_nle c_15 rfl rfl
            refine lv_aload_n hx hb dX8_copy_212 rfl (lv_at hl 1 rfl) ?_
            refine va_get (D := D) (ci := 8) (v := .ref mce) (C := RX8) (T := TX8) (N := 38) hx hb hts hi_X8_copy_8 hown hK hP 0 rfl rfl 21 (by decide) (hts (.fieldLink RX8 59 "TheLiningsInItModel" "cells" "[J") (List.mem_of_getElem? (i := 5) rfl)) (fun _ h9 => h9) rfl dX8_copy_213 ?_
            refine lv_sipush (v := 160) hx hb dX8_copy_216 (by decide) ?_
            refine lv_iload_n hx hb dX8_copy_219 rfl (lv_at hl 3 rfl) ?_
            refine lv_imul hx hb dX8_copy_220 ?_
            refine lv_topi (fun x_16 ex_16 => ?_)
            have qx_16 : x_16.toInt = 160 * q_.toInt := by rw [ex_16]; exact zf_mul (by decide) rfl (by omega) (by omega)
            refine lv_iload hx hb dX8_copy_221 (lv_at hl 5 rfl) ?_
            refine lv_iadd hx hb dX8_copy_223 ?_
            refine lv_topi (fun x_17 ex_17 => ?_)
            have qx_17 : x_17.toInt = x_16.toInt + j.toInt := by rw [ex_17]; exact zf_add rfl rfl (by omega) (by omega)
            refine lv_iload hx hb dX8_copy_224 (lv_at hl 0 rfl) ?_
            refine lv_iadd hx hb dX8_copy_226 ?_
            refine lv_topi (fun x_18 ex_18 => ?_)
            have qx_18 : x_18.toInt = x_17.toInt + i_205.toInt := by rw [ex_18]; exact zf_add rfl rfl (by omega) (by omega)
            refine lv_aload_n hx hb dX8_copy_227 rfl (lv_at hl 1 rfl) ?_
            refine va_get (D := D) (ci := 8) (v := .ref mca) (C := RX8) (T := TX8) (N := 38) hx hb hts hi_X8_copy_8 hown hK hP 0 rfl rfl 22 (by decide) (hts (.fieldLink RX8 63 "TheLiningsInItModel" "carried" "[J") (List.mem_of_getElem? (i := 4) rfl)) (fun _ h9 => h9) rfl dX8_copy_228 ?_
            refine lv_iload hx hb dX8_copy_231 (lv_at hl 0 rfl) ?_
            refine va_lald hx hb hK hP 6 1 rfl rfl (zf_in (by omega) (by omega)) dX8_copy_233 ?_
            refine lv_topl (fun x_19 ex_19 => ?_)
            refine va_last hx hb hK hP hD hS 5 1 rfl rfl (zf_in (by omega) (by omega)) dX8_copy_234 (fun H locs hP hD hS => ?_)
            obtain ⟨g_20, hg_20⟩ : ∃ g : Nat → Int64, g = vp_updL g_13 x_18.toNatClampNeg x_19 := ⟨_, rfl⟩
            rw [← hg_20] at hP hD
            have h9R := zRe (ws' := [(zMO m0 npu nte nat_ nde nto nse nhu nga nsd nfa mrf mki mpa mta mla msl mco mhe mso msi msh mce mca mwo mnu mte nba npl nen nnu nwr mwa mke mma mth mtr nra nik), (mrf, .inl (cI, 8, .inl grf)), (mhe, .inl (cI, 8, .inl ghe)), (mso, .inl (cI, 8, .inl gso)), (msi, .inl (cI, 8, .inl gsi)), (mce, .inl (cJ, 1280, .inr (.inl g_20))), (mca, .inl (cJ, 160, .inr (.inl g_1)))]) hP hD rfl
            clear hP hD
            obtain ⟨hP, hD⟩ := h9R
            obtain ⟨x_21, ex_21⟩ : ∃ y : Int32, y = i_205 + 1 := ⟨_, rfl⟩
            have qx_21 : x_21.toInt = i_205.toInt + 1 := dw_inc ex_21 fc_15
            refine lv_iinc (v := x_21) (lv' := [(6, .int x_21), (0, .ref m0), (1, .int s_), (2, .int q_), (3, .int i), (4, .int j), (5, .int n)]) hx hb dX8_copy_235 hl (k := 0) rfl ex_21.symm (by decide) rfl (fun ls hl => ?_)
            refine lv_goto (tgt := 205) hx hb dX8_copy_238 (by decide) ?_
            exact ih_205 x_21 (g_20) _ _ _ (hP.sub [0, 1, 2, 3, 4, 5, 6] rfl) (hD.sub [0, 1, 2, 3, 4, 5, 6] (by decide) rfl) hS (lv_sub hl [0, 1, 2, 3, 4, 5, 6] rfl) (show (∀ m : Nat, g_20 m = (if 160 * q_.toInt + j.toInt ≤ (m : Int) ∧ (m : Int) < 160 * q_.toInt + j.toInt + x_21.toInt then gce (160 * s_.toInt + i.toInt + ((m : Int) - (160 * q_.toInt + j.toInt))).toNat else gce m)) from by (intro m; rw [hg_20]; simp only [vp_updL]; have h7 : x_18.toNatClampNeg = x_18.toInt.toNat := rfl; have h6 : i_205.toNatClampNeg = i_205.toInt.toNat := rfl; by_cases e9 : m = x_18.toNatClampNeg; (rw [if_pos e9, if_pos (by omega), ex_19, hvi_167_0 _ (by omega)]; congr 2; omega); (rw [if_neg e9, hvi_205_0 m]; by_cases e8 : 160 * q_.toInt + j.toInt ≤ (m : Int) ∧ (m : Int) < 160 * q_.toInt + j.toInt + i_205.toInt; (rw [if_pos e8, if_pos (by omega)]); (rw [if_neg e8, if_neg (by omega)])))) (show x_21.toInt ≤ n.toInt from by omega) (dw_lo hloi_205 qx_21) (dw_hn hni_205 qx_21)
      · have fc_12 : i_167.toInt < n.toInt := zf_nle c_12 rfl rfl
        refine lv_aload_n hx hb dX8_copy_174 rfl (lv_at hl 1 rfl) ?_
        refine va_get (D := D) (ci := 8) (v := .ref mca) (C := RX8) (T := TX8) (N := 38) hx hb hts hi_X8_copy_8 hown hK hP 0 rfl rfl 22 (by decide) (hts (.fieldLink RX8 63 "TheLiningsInItModel" "carried" "[J") (List.mem_of_getElem? (i := 4) rfl)) (fun _ h9 => h9) rfl dX8_copy_175 ?_
        refine lv_iload hx hb dX8_copy_178 (lv_at hl 0 rfl) ?_
        refine lv_aload_n hx hb dX8_copy_180 rfl (lv_at hl 1 rfl) ?_
        refine va_get (D := D) (ci := 8) (v := .ref mce) (C := RX8) (T := TX8) (N := 38) hx hb hts hi_X8_copy_8 hown hK hP 0 rfl rfl 21 (by decide) (hts (.fieldLink RX8 59 "TheLiningsInItModel" "cells" "[J") (List.mem_of_getElem? (i := 5) rfl)) (fun _ h9 => h9) rfl dX8_copy_181 ?_
        refine lv_sipush (v := 160) hx hb dX8_copy_184 (by decide) ?_
        refine lv_iload_n hx hb dX8_copy_187 rfl (lv_at hl 2 rfl) ?_
        refine lv_imul hx hb dX8_copy_188 ?_
        refine lv_topi (fun x_22 ex_22 => ?_)
        have qx_22 : x_22.toInt = 160 * s_.toInt := by rw [ex_22]; exact zf_mul (by decide) rfl (by omega) (by omega)
        refine lv_iload_n hx hb dX8_copy_189 rfl (lv_at hl 4 rfl) ?_
        refine lv_iadd hx hb dX8_copy_190 ?_
        refine lv_topi (fun x_23 ex_23 => ?_)
        have qx_23 : x_23.toInt = x_22.toInt + i.toInt := by rw [ex_23]; exact zf_add rfl rfl (by omega) (by omega)
        refine lv_iload hx hb dX8_copy_191 (lv_at hl 0 rfl) ?_
        refine lv_iadd hx hb dX8_copy_193 ?_
        refine lv_topi (fun x_24 ex_24 => ?_)
        have qx_24 : x_24.toInt = x_23.toInt + i_167.toInt := by rw [ex_24]; exact zf_add rfl rfl (by omega) (by omega)
        refine va_lald hx hb hK hP 5 1 rfl rfl (zf_in (by omega) (by omega)) dX8_copy_194 ?_
        refine lv_topl (fun x_25 ex_25 => ?_)
        refine va_last hx hb hK hP hD hS 6 1 rfl rfl (zf_in (by omega) (by omega)) dX8_copy_195 (fun H locs hP hD hS => ?_)
        obtain ⟨g_26, hg_26⟩ : ∃ g : Nat → Int64, g = vp_updL g_1 i_167.toNatClampNeg x_25 := ⟨_, rfl⟩
        rw [← hg_26] at hP hD
        have h9R := zRe (ws' := [(zMO m0 npu nte nat_ nde nto nse nhu nga nsd nfa mrf mki mpa mta mla msl mco mhe mso msi msh mce mca mwo mnu mte nba npl nen nnu nwr mwa mke mma mth mtr nra nik), (mrf, .inl (cI, 8, .inl grf)), (mhe, .inl (cI, 8, .inl ghe)), (mso, .inl (cI, 8, .inl gso)), (msi, .inl (cI, 8, .inl gsi)), (mce, .inl (cJ, 1280, .inr (.inl gce))), (mca, .inl (cJ, 160, .inr (.inl g_26)))]) hP hD rfl
        clear hP hD
        obtain ⟨hP, hD⟩ := h9R
        obtain ⟨x_27, ex_27⟩ : ∃ y : Int32, y = i_167 + 1 := ⟨_, rfl⟩
        have qx_27 : x_27.toInt = i_167.toInt + 1 := dw_inc ex_27 fc_12
        refine lv_iinc (v := x_27) (lv' := [(6, .int x_27), (0, .ref m0), (1, .int s_), (2, .int q_), (3, .int i), (4, .int j), (5, .int n)]) hx hb dX8_copy_196 hl (k := 0) rfl ex_27.symm (by decide) rfl (fun ls hl => ?_)
        refine lv_goto (tgt := 167) hx hb dX8_copy_199 (by decide) ?_
        exact ih x_27 (g_26) _ _ _ (hP.sub [0, 1, 2, 3, 4, 5, 6] rfl) (hD.sub [0, 1, 2, 3, 4, 5, 6] (by decide) rfl) hS (lv_sub hl [0, 1, 2, 3, 4, 5, 6] rfl) (show (∀ k : Nat, (k : Int) < x_27.toInt → g_26 k = gce (160 * s_.toInt + i.toInt + (k : Int)).toNat) from by (intro k hk; rw [hg_26]; simp only [vp_updL]; have h7 : i_167.toNatClampNeg = i_167.toInt.toNat := rfl; by_cases e9 : k = i_167.toNatClampNeg; (rw [if_pos e9, ex_25]; congr 1; (show x_24.toInt.toNat = _; congr 1; omega)); (rw [if_neg e9]; exact hvi_167_0 k (by omega)))) (show x_27.toInt ≤ n.toInt from by omega) (dw_lo hloi_167 qx_27) (dw_hn hni_167 qx_27)
  refine lv_aload_n hx hb dX8_copy_0 rfl (lv_at hl 0 rfl) ?_
  refine lv_iload_n hx hb dX8_copy_1 rfl (lv_at hl 1 rfl) ?_
  refine zc_V (As := [.int s_]) (rest := []) ⟨hx, hb, hml, hown, hts⟩ (c_M_isShelf l D cI cJ cZ cP cS po m0 mrf mki mpa mta mla msl mco mhe mso msi msh mce mca mwo mnu mte mwa mke mma mth mtr (npu) (nte) (nat_) (nde) (nto) (nse) (nhu) (nga) (nsd) (nfa) (nba) (npl) (nen) (nnu) (nwr) (nra) (nik) (s_) hy0 hy1 hy2 hy3 hy4 hy5 hy6 hy7 hy8 hy9 hy10 hy11 hy12 hy13) (cwV 1 hts gX8_copy_X8_isShelf rfl rfl rfl ⟨rfl, dh_X8_isShelf⟩ ⟨Nat.le_of_ble_eq_true rfl, Nat.le_of_ble_eq_true rfl⟩) hK hN (hZ.kept hS) hP (hP.sub [0] rfl) (va_recv (q := (RX8, TX8, 38)) hK hP (ci := 8) (q0 := 0) rfl rfl) rfl hl.1 rfl (Nat.le_of_ble_eq_true rfl) dX8_copy_2 ⟨Nat.le_of_ble_eq_true rfl, Nat.le_of_ble_eq_true rfl⟩ (fun r_28 hr_28 => ?_)
  rcases hr_28 with ⟨rfl, g_29⟩ | ⟨rfl, g_30, g_31⟩ | ⟨rfl, g_32, g_33⟩
  · refine lv_if_eq (tgt := 16) hx hb dX8_copy_5 (by decide) (fun c_34 => ?_) (fun c_34 => ?_)
    · refine lv_aload_n hx hb dX8_copy_16 rfl (lv_at hl 0 rfl) ?_
      refine lv_iconst (v := (-1)) hx hb dX8_copy_17 (by decide) ?_
      skip
      refine zw_V (As := [.int (-1)]) (rest := []) (wr := [(mhe, .inl (cI, 8, .inl ghe)), (mso, .inl (cI, 8, .inl gso)), (msi, .inl (cI, 8, .inl gsi)), (mce, .inl (cJ, 1280, .inr (.inl gce))), (mca, .inl (cJ, 160, .inr (.inl gca)))]) ⟨hx, hb, hml, hown, hts⟩ (c_M_no_1 l D cI cJ cZ cP cS po m0 mrf mki mpa mta mla msl mco mhe mso msi msh mce mca mwo mnu mte mwa mke mma mth mtr (npu) (nte) (nat_) (nde) (nto) (nse) (nhu) (nga) (nsd) (nfa) (nba) (npl) (nen) (nnu) (nwr) (nra) (nik) grf hy0 hy1 hy2 hy3 hy4 hy5 hy6 hy7 hy8 hy9 hy10 hy11 hy12 hy13 H.size) (cwV 1 hts gX8_copy_X8_no rfl rfl rfl ⟨rfl, dh_X8_no⟩ ⟨Nat.le_of_ble_eq_true rfl, Nat.le_of_ble_eq_true rfl⟩) hK hN (hZ.kept hS) hP hD hS hA [0, 1] [2, 3, 4, 5, 6] rfl rfl (by decide) (by decide) (by decide) (va_recv (q := (RX8, TX8, 38)) hK hP (ci := 8) (q0 := 0) rfl rfl) rfl hl.1 rfl (Nat.le_of_ble_eq_true rfl) dX8_copy_18 ⟨Nat.le_of_ble_eq_true rfl, Nat.le_of_ble_eq_true rfl⟩ (fun r_35 u_36 H locs hr_35 hP hD hS => ?_)
      obtain ⟨q_37, rfl⟩ : ∃ z, z = u_36 := ⟨_, rfl⟩
      have h9R := zRe (ws' := [(mhe, .inl (cI, 8, .inl ghe)), (mso, .inl (cI, 8, .inl gso)), (msi, .inl (cI, 8, .inl gsi)), (mce, .inl (cJ, 1280, .inr (.inl gce))), (mca, .inl (cJ, 160, .inr (.inl gca))), (zMO m0 npu nte nat_ nde nto nse nhu nga nsd nfa mrf mki mpa mta mla msl mco mhe mso msi msh mce mca mwo mnu mte nba npl nen nnu nwr mwa mke mma mth mtr nra nik), (mrf, .inl (cI, 8, .inl q_37))]) hP hD rfl
      clear hP hD
      obtain ⟨hP, hD⟩ := h9R
      obtain rfl := hr_35
      exact W.iret (v := (-1)) hx hb hr (fun t ht hW => ⟨⟨(-1), (q_37, gce, gca), rfl, ⟨(show ((-1) : Int32).toInt = zCopR s_.toInt q_.toInt (zH2 (ghe s_.toNatClampNeg).toInt (gso s_.toNatClampNeg).toInt) (zH2 (ghe q_.toNatClampNeg).toInt (gso q_.toNatClampNeg).toInt) (gsi s_.toNatClampNeg).toInt (gsi q_.toNatClampNeg).toInt i.toInt j.toInt n.toInt from by (have k9 : ((-1) : Int32).toInt = -1 := (by decide); have gq1 := hp_gso s_.toNatClampNeg; have gq2 := hp_gso q_.toNatClampNeg; unfold zCopR zH2; (repeat (first | rw [if_pos (by omega)] | rw [if_neg (by omega)])) <;> omega)), (show (((-1) : Int32).toInt = 1 → ∀ m : Nat, gce m = (if 160 * q_.toInt + j.toInt ≤ (m : Int) ∧ (m : Int) < 160 * q_.toInt + j.toInt + n.toInt then gce (160 * s_.toInt + i.toInt + ((m : Int) - (160 * q_.toInt + j.toInt))).toNat else gce m)) from by (have k9 : ((-1) : Int32).toInt = -1 := (by decide); intro h; exfalso; omega)), (show (((-1) : Int32).toInt ≠ 1 → gce = gce) from by (have k9 : ((-1) : Int32).toInt = -1 := (by decide); intro h; exact rfl)), trivial⟩, zRet ht hP hD [5, 6, 0, 1, 2, 3, 4] (by decide) rfl⟩, hS.F ht⟩) hS.2.2 dX8_copy_21
    · exact absurd c_34 (by decide)
  · refine lv_if_eq (tgt := 16) hx hb dX8_copy_5 (by decide) (fun c_38 => ?_) (fun c_38 => ?_)
    · refine lv_aload_n hx hb dX8_copy_16 rfl (lv_at hl 0 rfl) ?_
      refine lv_iconst (v := (-1)) hx hb dX8_copy_17 (by decide) ?_
      skip
      refine zw_V (As := [.int (-1)]) (rest := []) (wr := [(mhe, .inl (cI, 8, .inl ghe)), (mso, .inl (cI, 8, .inl gso)), (msi, .inl (cI, 8, .inl gsi)), (mce, .inl (cJ, 1280, .inr (.inl gce))), (mca, .inl (cJ, 160, .inr (.inl gca)))]) ⟨hx, hb, hml, hown, hts⟩ (c_M_no_1 l D cI cJ cZ cP cS po m0 mrf mki mpa mta mla msl mco mhe mso msi msh mce mca mwo mnu mte mwa mke mma mth mtr (npu) (nte) (nat_) (nde) (nto) (nse) (nhu) (nga) (nsd) (nfa) (nba) (npl) (nen) (nnu) (nwr) (nra) (nik) grf hy0 hy1 hy2 hy3 hy4 hy5 hy6 hy7 hy8 hy9 hy10 hy11 hy12 hy13 H.size) (cwV 1 hts gX8_copy_X8_no rfl rfl rfl ⟨rfl, dh_X8_no⟩ ⟨Nat.le_of_ble_eq_true rfl, Nat.le_of_ble_eq_true rfl⟩) hK hN (hZ.kept hS) hP hD hS hA [0, 1] [2, 3, 4, 5, 6] rfl rfl (by decide) (by decide) (by decide) (va_recv (q := (RX8, TX8, 38)) hK hP (ci := 8) (q0 := 0) rfl rfl) rfl hl.1 rfl (Nat.le_of_ble_eq_true rfl) dX8_copy_18 ⟨Nat.le_of_ble_eq_true rfl, Nat.le_of_ble_eq_true rfl⟩ (fun r_39 u_40 H locs hr_39 hP hD hS => ?_)
      obtain ⟨q_41, rfl⟩ : ∃ z, z = u_40 := ⟨_, rfl⟩
      have h9R := zRe (ws' := [(mhe, .inl (cI, 8, .inl ghe)), (mso, .inl (cI, 8, .inl gso)), (msi, .inl (cI, 8, .inl gsi)), (mce, .inl (cJ, 1280, .inr (.inl gce))), (mca, .inl (cJ, 160, .inr (.inl gca))), (zMO m0 npu nte nat_ nde nto nse nhu nga nsd nfa mrf mki mpa mta mla msl mco mhe mso msi msh mce mca mwo mnu mte nba npl nen nnu nwr mwa mke mma mth mtr nra nik), (mrf, .inl (cI, 8, .inl q_41))]) hP hD rfl
      clear hP hD
      obtain ⟨hP, hD⟩ := h9R
      obtain rfl := hr_39
      exact W.iret (v := (-1)) hx hb hr (fun t ht hW => ⟨⟨(-1), (q_41, gce, gca), rfl, ⟨(show ((-1) : Int32).toInt = zCopR s_.toInt q_.toInt (zH2 (ghe s_.toNatClampNeg).toInt (gso s_.toNatClampNeg).toInt) (zH2 (ghe q_.toNatClampNeg).toInt (gso q_.toNatClampNeg).toInt) (gsi s_.toNatClampNeg).toInt (gsi q_.toNatClampNeg).toInt i.toInt j.toInt n.toInt from by (have k9 : ((-1) : Int32).toInt = -1 := (by decide); have gq1 := hp_gso s_.toNatClampNeg; have gq2 := hp_gso q_.toNatClampNeg; unfold zCopR zH2; (repeat (first | rw [if_pos (by omega)] | rw [if_neg (by omega)])) <;> omega)), (show (((-1) : Int32).toInt = 1 → ∀ m : Nat, gce m = (if 160 * q_.toInt + j.toInt ≤ (m : Int) ∧ (m : Int) < 160 * q_.toInt + j.toInt + n.toInt then gce (160 * s_.toInt + i.toInt + ((m : Int) - (160 * q_.toInt + j.toInt))).toNat else gce m)) from by (have k9 : ((-1) : Int32).toInt = -1 := (by decide); intro h; exfalso; omega)), (show (((-1) : Int32).toInt ≠ 1 → gce = gce) from by (have k9 : ((-1) : Int32).toInt = -1 := (by decide); intro h; exact rfl)), trivial⟩, zRet ht hP hD [5, 6, 0, 1, 2, 3, 4] (by decide) rfl⟩, hS.F ht⟩) hS.2.2 dX8_copy_21
    · exact absurd c_38 (by decide)
  · refine lv_if_eq (tgt := 16) hx hb dX8_copy_5 (by decide) (fun c_42 => ?_) (fun c_42 => ?_)
    · exact absurd c_42 (by decide)
    · refine lv_aload_n hx hb dX8_copy_8 rfl (lv_at hl 0 rfl) ?_
      refine lv_iload_n hx hb dX8_copy_9 rfl (lv_at hl 2 rfl) ?_
      refine zc_V (As := [.int q_]) (rest := []) ⟨hx, hb, hml, hown, hts⟩ (c_M_isShelf l D cI cJ cZ cP cS po m0 mrf mki mpa mta mla msl mco mhe mso msi msh mce mca mwo mnu mte mwa mke mma mth mtr (npu) (nte) (nat_) (nde) (nto) (nse) (nhu) (nga) (nsd) (nfa) (nba) (npl) (nen) (nnu) (nwr) (nra) (nik) (q_) hy0 hy1 hy2 hy3 hy4 hy5 hy6 hy7 hy8 hy9 hy10 hy11 hy12 hy13) (cwV 1 hts gX8_copy_X8_isShelf rfl rfl rfl ⟨rfl, dh_X8_isShelf⟩ ⟨Nat.le_of_ble_eq_true rfl, Nat.le_of_ble_eq_true rfl⟩) hK hN (hZ.kept hS) hP (hP.sub [0] rfl) (va_recv (q := (RX8, TX8, 38)) hK hP (ci := 8) (q0 := 0) rfl rfl) rfl hl.1 rfl (Nat.le_of_ble_eq_true rfl) dX8_copy_10 ⟨Nat.le_of_ble_eq_true rfl, Nat.le_of_ble_eq_true rfl⟩ (fun r_43 hr_43 => ?_)
      rcases hr_43 with ⟨rfl, g_44⟩ | ⟨rfl, g_45, g_46⟩ | ⟨rfl, g_47, g_48⟩
      · refine lv_if_ne (tgt := 22) hx hb dX8_copy_13 (by decide) (fun c_49 => ?_) (fun c_49 => ?_)
        · exact absurd c_49 (by decide)
        · refine lv_aload_n hx hb dX8_copy_16 rfl (lv_at hl 0 rfl) ?_
          refine lv_iconst (v := (-1)) hx hb dX8_copy_17 (by decide) ?_
          skip
          refine zw_V (As := [.int (-1)]) (rest := []) (wr := [(mhe, .inl (cI, 8, .inl ghe)), (mso, .inl (cI, 8, .inl gso)), (msi, .inl (cI, 8, .inl gsi)), (mce, .inl (cJ, 1280, .inr (.inl gce))), (mca, .inl (cJ, 160, .inr (.inl gca)))]) ⟨hx, hb, hml, hown, hts⟩ (c_M_no_1 l D cI cJ cZ cP cS po m0 mrf mki mpa mta mla msl mco mhe mso msi msh mce mca mwo mnu mte mwa mke mma mth mtr (npu) (nte) (nat_) (nde) (nto) (nse) (nhu) (nga) (nsd) (nfa) (nba) (npl) (nen) (nnu) (nwr) (nra) (nik) grf hy0 hy1 hy2 hy3 hy4 hy5 hy6 hy7 hy8 hy9 hy10 hy11 hy12 hy13 H.size) (cwV 1 hts gX8_copy_X8_no rfl rfl rfl ⟨rfl, dh_X8_no⟩ ⟨Nat.le_of_ble_eq_true rfl, Nat.le_of_ble_eq_true rfl⟩) hK hN (hZ.kept hS) hP hD hS hA [0, 1] [2, 3, 4, 5, 6] rfl rfl (by decide) (by decide) (by decide) (va_recv (q := (RX8, TX8, 38)) hK hP (ci := 8) (q0 := 0) rfl rfl) rfl hl.1 rfl (Nat.le_of_ble_eq_true rfl) dX8_copy_18 ⟨Nat.le_of_ble_eq_true rfl, Nat.le_of_ble_eq_true rfl⟩ (fun r_50 u_51 H locs hr_50 hP hD hS => ?_)
          obtain ⟨q_52, rfl⟩ : ∃ z, z = u_51 := ⟨_, rfl⟩
          have h9R := zRe (ws' := [(mhe, .inl (cI, 8, .inl ghe)), (mso, .inl (cI, 8, .inl gso)), (msi, .inl (cI, 8, .inl gsi)), (mce, .inl (cJ, 1280, .inr (.inl gce))), (mca, .inl (cJ, 160, .inr (.inl gca))), (zMO m0 npu nte nat_ nde nto nse nhu nga nsd nfa mrf mki mpa mta mla msl mco mhe mso msi msh mce mca mwo mnu mte nba npl nen nnu nwr mwa mke mma mth mtr nra nik), (mrf, .inl (cI, 8, .inl q_52))]) hP hD rfl
          clear hP hD
          obtain ⟨hP, hD⟩ := h9R
          obtain rfl := hr_50
          exact W.iret (v := (-1)) hx hb hr (fun t ht hW => ⟨⟨(-1), (q_52, gce, gca), rfl, ⟨(show ((-1) : Int32).toInt = zCopR s_.toInt q_.toInt (zH2 (ghe s_.toNatClampNeg).toInt (gso s_.toNatClampNeg).toInt) (zH2 (ghe q_.toNatClampNeg).toInt (gso q_.toNatClampNeg).toInt) (gsi s_.toNatClampNeg).toInt (gsi q_.toNatClampNeg).toInt i.toInt j.toInt n.toInt from by (have k9 : ((-1) : Int32).toInt = -1 := (by decide); have gq1 := hp_gso s_.toNatClampNeg; have gq2 := hp_gso q_.toNatClampNeg; unfold zCopR zH2; (repeat (first | rw [if_pos (by omega)] | rw [if_neg (by omega)])) <;> omega)), (show (((-1) : Int32).toInt = 1 → ∀ m : Nat, gce m = (if 160 * q_.toInt + j.toInt ≤ (m : Int) ∧ (m : Int) < 160 * q_.toInt + j.toInt + n.toInt then gce (160 * s_.toInt + i.toInt + ((m : Int) - (160 * q_.toInt + j.toInt))).toNat else gce m)) from by (have k9 : ((-1) : Int32).toInt = -1 := (by decide); intro h; exfalso; omega)), (show (((-1) : Int32).toInt ≠ 1 → gce = gce) from by (have k9 : ((-1) : Int32).toInt = -1 := (by decide); intro h; exact rfl)), trivial⟩, zRet ht hP hD [5, 6, 0, 1, 2, 3, 4] (by decide) rfl⟩, hS.F ht⟩) hS.2.2 dX8_copy_21
      · refine lv_if_ne (tgt := 22) hx hb dX8_copy_13 (by decide) (fun c_53 => ?_) (fun c_53 => ?_)
        · exact absurd c_53 (by decide)
        · refine lv_aload_n hx hb dX8_copy_16 rfl (lv_at hl 0 rfl) ?_
          refine lv_iconst (v := (-1)) hx hb dX8_copy_17 (by decide) ?_
          skip
          refine zw_V (As := [.int (-1)]) (rest := []) (wr := [(mhe, .inl (cI, 8, .inl ghe)), (mso, .inl (cI, 8, .inl gso)), (msi, .inl (cI, 8, .inl gsi)), (mce, .inl (cJ, 1280, .inr (.inl gce))), (mca, .inl (cJ, 160, .inr (.inl gca)))]) ⟨hx, hb, hml, hown, hts⟩ (c_M_no_1 l D cI cJ cZ cP cS po m0 mrf mki mpa mta mla msl mco mhe mso msi msh mce mca mwo mnu mte mwa mke mma mth mtr (npu) (nte) (nat_) (nde) (nto) (nse) (nhu) (nga) (nsd) (nfa) (nba) (npl) (nen) (nnu) (nwr) (nra) (nik) grf hy0 hy1 hy2 hy3 hy4 hy5 hy6 hy7 hy8 hy9 hy10 hy11 hy12 hy13 H.size) (cwV 1 hts gX8_copy_X8_no rfl rfl rfl ⟨rfl, dh_X8_no⟩ ⟨Nat.le_of_ble_eq_true rfl, Nat.le_of_ble_eq_true rfl⟩) hK hN (hZ.kept hS) hP hD hS hA [0, 1] [2, 3, 4, 5, 6] rfl rfl (by decide) (by decide) (by decide) (va_recv (q := (RX8, TX8, 38)) hK hP (ci := 8) (q0 := 0) rfl rfl) rfl hl.1 rfl (Nat.le_of_ble_eq_true rfl) dX8_copy_18 ⟨Nat.le_of_ble_eq_true rfl, Nat.le_of_ble_eq_true rfl⟩ (fun r_54 u_55 H locs hr_54 hP hD hS => ?_)
          obtain ⟨q_56, rfl⟩ : ∃ z, z = u_55 := ⟨_, rfl⟩
          have h9R := zRe (ws' := [(mhe, .inl (cI, 8, .inl ghe)), (mso, .inl (cI, 8, .inl gso)), (msi, .inl (cI, 8, .inl gsi)), (mce, .inl (cJ, 1280, .inr (.inl gce))), (mca, .inl (cJ, 160, .inr (.inl gca))), (zMO m0 npu nte nat_ nde nto nse nhu nga nsd nfa mrf mki mpa mta mla msl mco mhe mso msi msh mce mca mwo mnu mte nba npl nen nnu nwr mwa mke mma mth mtr nra nik), (mrf, .inl (cI, 8, .inl q_56))]) hP hD rfl
          clear hP hD
          obtain ⟨hP, hD⟩ := h9R
          obtain rfl := hr_54
          exact W.iret (v := (-1)) hx hb hr (fun t ht hW => ⟨⟨(-1), (q_56, gce, gca), rfl, ⟨(show ((-1) : Int32).toInt = zCopR s_.toInt q_.toInt (zH2 (ghe s_.toNatClampNeg).toInt (gso s_.toNatClampNeg).toInt) (zH2 (ghe q_.toNatClampNeg).toInt (gso q_.toNatClampNeg).toInt) (gsi s_.toNatClampNeg).toInt (gsi q_.toNatClampNeg).toInt i.toInt j.toInt n.toInt from by (have k9 : ((-1) : Int32).toInt = -1 := (by decide); have gq1 := hp_gso s_.toNatClampNeg; have gq2 := hp_gso q_.toNatClampNeg; unfold zCopR zH2; (repeat (first | rw [if_pos (by omega)] | rw [if_neg (by omega)])) <;> omega)), (show (((-1) : Int32).toInt = 1 → ∀ m : Nat, gce m = (if 160 * q_.toInt + j.toInt ≤ (m : Int) ∧ (m : Int) < 160 * q_.toInt + j.toInt + n.toInt then gce (160 * s_.toInt + i.toInt + ((m : Int) - (160 * q_.toInt + j.toInt))).toNat else gce m)) from by (have k9 : ((-1) : Int32).toInt = -1 := (by decide); intro h; exfalso; omega)), (show (((-1) : Int32).toInt ≠ 1 → gce = gce) from by (have k9 : ((-1) : Int32).toInt = -1 := (by decide); intro h; exact rfl)), trivial⟩, zRet ht hP hD [5, 6, 0, 1, 2, 3, 4] (by decide) rfl⟩, hS.F ht⟩) hS.2.2 dX8_copy_21
      · refine lv_if_ne (tgt := 22) hx hb dX8_copy_13 (by decide) (fun c_57 => ?_) (fun c_57 => ?_)
        · refine lv_aload_n hx hb dX8_copy_22 rfl (lv_at hl 0 rfl) ?_
          refine va_get (D := D) (ci := 8) (v := .ref mhe) (C := RX8) (T := TX8) (N := 38) hx hb hts hi_X8_copy_8 hown hK hP 0 rfl rfl 17 (by decide) (hts (.fieldLink RX8 47 "TheLiningsInItModel" "held" "[I") (List.mem_of_getElem? (i := 1) rfl)) (fun _ h9 => h9) rfl dX8_copy_23 ?_
          refine lv_iload_n hx hb dX8_copy_26 rfl (lv_at hl 1 rfl) ?_
          refine va_iald hx hb hK hP 2 0 rfl rfl (zf_in (by omega) (by omega)) dX8_copy_27 ?_
          refine lv_topi (fun x_58 ex_58 => ?_)
          have bx_58 : 0 ≤ x_58.toInt ∧ x_58.toInt ≤ 2 := by rw [ex_58]; exact hp_ghe _
          refine lv_iconst (v := 2) hx hb dX8_copy_28 (by decide) ?_
          refine lv_icmp_eq (tgt := 77) hx hb dX8_copy_29 (by decide) (fun c_59 => ?_) (fun c_59 => ?_)
          · have fc_59 : x_58.toInt = 2 := zf_eq c_59 rfl (by decide)
            refine lv_aload_n hx hb dX8_copy_77 rfl (lv_at hl 0 rfl) ?_
            refine lv_bipush (v := (-2)) hx hb dX8_copy_78 (by decide) ?_
            skip
            refine zw_V (As := [.int (-2)]) (rest := []) (wr := [(mhe, .inl (cI, 8, .inl ghe)), (mso, .inl (cI, 8, .inl gso)), (msi, .inl (cI, 8, .inl gsi)), (mce, .inl (cJ, 1280, .inr (.inl gce))), (mca, .inl (cJ, 160, .inr (.inl gca)))]) ⟨hx, hb, hml, hown, hts⟩ (c_M_no_2 l D cI cJ cZ cP cS po m0 mrf mki mpa mta mla msl mco mhe mso msi msh mce mca mwo mnu mte mwa mke mma mth mtr (npu) (nte) (nat_) (nde) (nto) (nse) (nhu) (nga) (nsd) (nfa) (nba) (npl) (nen) (nnu) (nwr) (nra) (nik) grf hy0 hy1 hy2 hy3 hy4 hy5 hy6 hy7 hy8 hy9 hy10 hy11 hy12 hy13 H.size) (cwV 1 hts gX8_copy_X8_no rfl rfl rfl ⟨rfl, dh_X8_no⟩ ⟨Nat.le_of_ble_eq_true rfl, Nat.le_of_ble_eq_true rfl⟩) hK hN (hZ.kept hS) hP hD hS hA [0, 1] [2, 3, 4, 5, 6] rfl rfl (by decide) (by decide) (by decide) (va_recv (q := (RX8, TX8, 38)) hK hP (ci := 8) (q0 := 0) rfl rfl) rfl hl.1 rfl (Nat.le_of_ble_eq_true rfl) dX8_copy_80 ⟨Nat.le_of_ble_eq_true rfl, Nat.le_of_ble_eq_true rfl⟩ (fun r_60 u_61 H locs hr_60 hP hD hS => ?_)
            obtain ⟨q_62, rfl⟩ : ∃ z, z = u_61 := ⟨_, rfl⟩
            have h9R := zRe (ws' := [(mhe, .inl (cI, 8, .inl ghe)), (mso, .inl (cI, 8, .inl gso)), (msi, .inl (cI, 8, .inl gsi)), (mce, .inl (cJ, 1280, .inr (.inl gce))), (mca, .inl (cJ, 160, .inr (.inl gca))), (zMO m0 npu nte nat_ nde nto nse nhu nga nsd nfa mrf mki mpa mta mla msl mco mhe mso msi msh mce mca mwo mnu mte nba npl nen nnu nwr mwa mke mma mth mtr nra nik), (mrf, .inl (cI, 8, .inl q_62))]) hP hD rfl
            clear hP hD
            obtain ⟨hP, hD⟩ := h9R
            obtain rfl := hr_60
            exact W.iret (v := (-2)) hx hb hr (fun t ht hW => ⟨⟨(-2), (q_62, gce, gca), rfl, ⟨(show ((-2) : Int32).toInt = zCopR s_.toInt q_.toInt (zH2 (ghe s_.toNatClampNeg).toInt (gso s_.toNatClampNeg).toInt) (zH2 (ghe q_.toNatClampNeg).toInt (gso q_.toNatClampNeg).toInt) (gsi s_.toNatClampNeg).toInt (gsi q_.toNatClampNeg).toInt i.toInt j.toInt n.toInt from by (have k9 : ((-2) : Int32).toInt = -2 := (by decide); have gq1 := hp_gso s_.toNatClampNeg; have gq2 := hp_gso q_.toNatClampNeg; (try rw [← ex_58]); unfold zCopR zH2; (repeat (first | rw [if_pos (by omega)] | rw [if_neg (by omega)])) <;> omega)), (show (((-2) : Int32).toInt = 1 → ∀ m : Nat, gce m = (if 160 * q_.toInt + j.toInt ≤ (m : Int) ∧ (m : Int) < 160 * q_.toInt + j.toInt + n.toInt then gce (160 * s_.toInt + i.toInt + ((m : Int) - (160 * q_.toInt + j.toInt))).toNat else gce m)) from by (have k9 : ((-2) : Int32).toInt = -2 := (by decide); intro h; exfalso; omega)), (show (((-2) : Int32).toInt ≠ 1 → gce = gce) from by (have k9 : ((-2) : Int32).toInt = -2 := (by decide); intro h; exact rfl)), trivial⟩, zRet ht hP hD [5, 6, 0, 1, 2, 3, 4] (by decide) rfl⟩, hS.F ht⟩) hS.2.2 dX8_copy_83
          · have fc_59 : x_58.toInt ≠ 2 := zf_ne c_59 rfl (by decide)
            refine lv_aload_n hx hb dX8_copy_32 rfl (lv_at hl 0 rfl) ?_
            refine va_get (D := D) (ci := 8) (v := .ref mhe) (C := RX8) (T := TX8) (N := 38) hx hb hts hi_X8_copy_8 hown hK hP 0 rfl rfl 17 (by decide) (hts (.fieldLink RX8 47 "TheLiningsInItModel" "held" "[I") (List.mem_of_getElem? (i := 1) rfl)) (fun _ h9 => h9) rfl dX8_copy_33 ?_
            refine lv_iload_n hx hb dX8_copy_36 rfl (lv_at hl 2 rfl) ?_
            refine va_iald hx hb hK hP 2 0 rfl rfl (zf_in (by omega) (by omega)) dX8_copy_37 ?_
            refine lv_topi (fun x_63 ex_63 => ?_)
            have bx_63 : 0 ≤ x_63.toInt ∧ x_63.toInt ≤ 2 := by rw [ex_63]; exact hp_ghe _
            refine lv_iconst (v := 2) hx hb dX8_copy_38 (by decide) ?_
            refine lv_icmp_eq (tgt := 77) hx hb dX8_copy_39 (by decide) (fun c_64 => ?_) (fun c_64 => ?_)
            · have fc_64 : x_63.toInt = 2 := zf_eq c_64 rfl (by decide)
              refine lv_aload_n hx hb dX8_copy_77 rfl (lv_at hl 0 rfl) ?_
              refine lv_bipush (v := (-2)) hx hb dX8_copy_78 (by decide) ?_
              skip
              refine zw_V (As := [.int (-2)]) (rest := []) (wr := [(mhe, .inl (cI, 8, .inl ghe)), (mso, .inl (cI, 8, .inl gso)), (msi, .inl (cI, 8, .inl gsi)), (mce, .inl (cJ, 1280, .inr (.inl gce))), (mca, .inl (cJ, 160, .inr (.inl gca)))]) ⟨hx, hb, hml, hown, hts⟩ (c_M_no_2 l D cI cJ cZ cP cS po m0 mrf mki mpa mta mla msl mco mhe mso msi msh mce mca mwo mnu mte mwa mke mma mth mtr (npu) (nte) (nat_) (nde) (nto) (nse) (nhu) (nga) (nsd) (nfa) (nba) (npl) (nen) (nnu) (nwr) (nra) (nik) grf hy0 hy1 hy2 hy3 hy4 hy5 hy6 hy7 hy8 hy9 hy10 hy11 hy12 hy13 H.size) (cwV 1 hts gX8_copy_X8_no rfl rfl rfl ⟨rfl, dh_X8_no⟩ ⟨Nat.le_of_ble_eq_true rfl, Nat.le_of_ble_eq_true rfl⟩) hK hN (hZ.kept hS) hP hD hS hA [0, 1] [2, 3, 4, 5, 6] rfl rfl (by decide) (by decide) (by decide) (va_recv (q := (RX8, TX8, 38)) hK hP (ci := 8) (q0 := 0) rfl rfl) rfl hl.1 rfl (Nat.le_of_ble_eq_true rfl) dX8_copy_80 ⟨Nat.le_of_ble_eq_true rfl, Nat.le_of_ble_eq_true rfl⟩ (fun r_65 u_66 H locs hr_65 hP hD hS => ?_)
              obtain ⟨q_67, rfl⟩ : ∃ z, z = u_66 := ⟨_, rfl⟩
              have h9R := zRe (ws' := [(mhe, .inl (cI, 8, .inl ghe)), (mso, .inl (cI, 8, .inl gso)), (msi, .inl (cI, 8, .inl gsi)), (mce, .inl (cJ, 1280, .inr (.inl gce))), (mca, .inl (cJ, 160, .inr (.inl gca))), (zMO m0 npu nte nat_ nde nto nse nhu nga nsd nfa mrf mki mpa mta mla msl mco mhe mso msi msh mce mca mwo mnu mte nba npl nen nnu nwr mwa mke mma mth mtr nra nik), (mrf, .inl (cI, 8, .inl q_67))]) hP hD rfl
              clear hP hD
              obtain ⟨hP, hD⟩ := h9R
              obtain rfl := hr_65
              exact W.iret (v := (-2)) hx hb hr (fun t ht hW => ⟨⟨(-2), (q_67, gce, gca), rfl, ⟨(show ((-2) : Int32).toInt = zCopR s_.toInt q_.toInt (zH2 (ghe s_.toNatClampNeg).toInt (gso s_.toNatClampNeg).toInt) (zH2 (ghe q_.toNatClampNeg).toInt (gso q_.toNatClampNeg).toInt) (gsi s_.toNatClampNeg).toInt (gsi q_.toNatClampNeg).toInt i.toInt j.toInt n.toInt from by (have k9 : ((-2) : Int32).toInt = -2 := (by decide); have gq1 := hp_gso s_.toNatClampNeg; have gq2 := hp_gso q_.toNatClampNeg; (try rw [← ex_58]); (try rw [← ex_63]); unfold zCopR zH2; (repeat (first | rw [if_pos (by omega)] | rw [if_neg (by omega)])) <;> omega)), (show (((-2) : Int32).toInt = 1 → ∀ m : Nat, gce m = (if 160 * q_.toInt + j.toInt ≤ (m : Int) ∧ (m : Int) < 160 * q_.toInt + j.toInt + n.toInt then gce (160 * s_.toInt + i.toInt + ((m : Int) - (160 * q_.toInt + j.toInt))).toNat else gce m)) from by (have k9 : ((-2) : Int32).toInt = -2 := (by decide); intro h; exfalso; omega)), (show (((-2) : Int32).toInt ≠ 1 → gce = gce) from by (have k9 : ((-2) : Int32).toInt = -2 := (by decide); intro h; exact rfl)), trivial⟩, zRet ht hP hD [5, 6, 0, 1, 2, 3, 4] (by decide) rfl⟩, hS.F ht⟩) hS.2.2 dX8_copy_83
            · have fc_64 : x_63.toInt ≠ 2 := zf_ne c_64 rfl (by decide)
              refine lv_aload_n hx hb dX8_copy_42 rfl (lv_at hl 0 rfl) ?_
              refine va_get (D := D) (ci := 8) (v := .ref mhe) (C := RX8) (T := TX8) (N := 38) hx hb hts hi_X8_copy_8 hown hK hP 0 rfl rfl 17 (by decide) (hts (.fieldLink RX8 47 "TheLiningsInItModel" "held" "[I") (List.mem_of_getElem? (i := 1) rfl)) (fun _ h9 => h9) rfl dX8_copy_43 ?_
              refine lv_iload_n hx hb dX8_copy_46 rfl (lv_at hl 1 rfl) ?_
              refine va_iald hx hb hK hP 2 0 rfl rfl (zf_in (by omega) (by omega)) dX8_copy_47 ?_
              refine lv_topi (fun y_68 ey_68 => ?_)
              obtain rfl : x_58 = y_68 := ex_58.trans ey_68.symm
              refine lv_iconst (v := 1) hx hb dX8_copy_48 (by decide) ?_
              refine lv_icmp_ne (tgt := 84) hx hb dX8_copy_49 (by decide) (fun c_69 => ?_) (fun c_69 => ?_)
              · have fc_69 : x_58.toInt ≠ 1 := zf_ne c_69 rfl (by decide)
                refine lv_aload_n hx hb dX8_copy_84 rfl (lv_at hl 0 rfl) ?_
                refine va_get (D := D) (ci := 8) (v := .ref mhe) (C := RX8) (T := TX8) (N := 38) hx hb hts hi_X8_copy_8 hown hK hP 0 rfl rfl 17 (by decide) (hts (.fieldLink RX8 47 "TheLiningsInItModel" "held" "[I") (List.mem_of_getElem? (i := 1) rfl)) (fun _ h9 => h9) rfl dX8_copy_85 ?_
                refine lv_iload_n hx hb dX8_copy_88 rfl (lv_at hl 1 rfl) ?_
                refine va_iald hx hb hK hP 2 0 rfl rfl (zf_in (by omega) (by omega)) dX8_copy_89 ?_
                refine lv_topi (fun y_70 ey_70 => ?_)
                obtain rfl : x_58 = y_70 := ex_58.trans ey_70.symm
                refine lv_if_eq (tgt := 102) hx hb dX8_copy_90 (by decide) (fun c_71 => ?_) (fun c_71 => ?_)
                · have fc_71 : x_58.toInt = 0 := zf_eq c_71 rfl (by decide)
                  refine lv_aload_n hx hb dX8_copy_102 rfl (lv_at hl 0 rfl) ?_
                  refine lv_bipush (v := (-3)) hx hb dX8_copy_103 (by decide) ?_
                  skip
                  refine zw_V (As := [.int (-3)]) (rest := []) (wr := [(mhe, .inl (cI, 8, .inl ghe)), (mso, .inl (cI, 8, .inl gso)), (msi, .inl (cI, 8, .inl gsi)), (mce, .inl (cJ, 1280, .inr (.inl gce))), (mca, .inl (cJ, 160, .inr (.inl gca)))]) ⟨hx, hb, hml, hown, hts⟩ (c_M_no_3 l D cI cJ cZ cP cS po m0 mrf mki mpa mta mla msl mco mhe mso msi msh mce mca mwo mnu mte mwa mke mma mth mtr (npu) (nte) (nat_) (nde) (nto) (nse) (nhu) (nga) (nsd) (nfa) (nba) (npl) (nen) (nnu) (nwr) (nra) (nik) grf hy0 hy1 hy2 hy3 hy4 hy5 hy6 hy7 hy8 hy9 hy10 hy11 hy12 hy13 H.size) (cwV 1 hts gX8_copy_X8_no rfl rfl rfl ⟨rfl, dh_X8_no⟩ ⟨Nat.le_of_ble_eq_true rfl, Nat.le_of_ble_eq_true rfl⟩) hK hN (hZ.kept hS) hP hD hS hA [0, 1] [2, 3, 4, 5, 6] rfl rfl (by decide) (by decide) (by decide) (va_recv (q := (RX8, TX8, 38)) hK hP (ci := 8) (q0 := 0) rfl rfl) rfl hl.1 rfl (Nat.le_of_ble_eq_true rfl) dX8_copy_105 ⟨Nat.le_of_ble_eq_true rfl, Nat.le_of_ble_eq_true rfl⟩ (fun r_72 u_73 H locs hr_72 hP hD hS => ?_)
                  obtain ⟨q_74, rfl⟩ : ∃ z, z = u_73 := ⟨_, rfl⟩
                  have h9R := zRe (ws' := [(mhe, .inl (cI, 8, .inl ghe)), (mso, .inl (cI, 8, .inl gso)), (msi, .inl (cI, 8, .inl gsi)), (mce, .inl (cJ, 1280, .inr (.inl gce))), (mca, .inl (cJ, 160, .inr (.inl gca))), (zMO m0 npu nte nat_ nde nto nse nhu nga nsd nfa mrf mki mpa mta mla msl mco mhe mso msi msh mce mca mwo mnu mte nba npl nen nnu nwr mwa mke mma mth mtr nra nik), (mrf, .inl (cI, 8, .inl q_74))]) hP hD rfl
                  clear hP hD
                  obtain ⟨hP, hD⟩ := h9R
                  obtain rfl := hr_72
                  exact W.iret (v := (-3)) hx hb hr (fun t ht hW => ⟨⟨(-3), (q_74, gce, gca), rfl, ⟨(show ((-3) : Int32).toInt = zCopR s_.toInt q_.toInt (zH2 (ghe s_.toNatClampNeg).toInt (gso s_.toNatClampNeg).toInt) (zH2 (ghe q_.toNatClampNeg).toInt (gso q_.toNatClampNeg).toInt) (gsi s_.toNatClampNeg).toInt (gsi q_.toNatClampNeg).toInt i.toInt j.toInt n.toInt from by (have k9 : ((-3) : Int32).toInt = -3 := (by decide); have gq1 := hp_gso s_.toNatClampNeg; have gq2 := hp_gso q_.toNatClampNeg; (try rw [← ex_58]); (try rw [← ex_63]); unfold zCopR zH2; (repeat (first | rw [if_pos (by omega)] | rw [if_neg (by omega)])) <;> omega)), (show (((-3) : Int32).toInt = 1 → ∀ m : Nat, gce m = (if 160 * q_.toInt + j.toInt ≤ (m : Int) ∧ (m : Int) < 160 * q_.toInt + j.toInt + n.toInt then gce (160 * s_.toInt + i.toInt + ((m : Int) - (160 * q_.toInt + j.toInt))).toNat else gce m)) from by (have k9 : ((-3) : Int32).toInt = -3 := (by decide); intro h; exfalso; omega)), (show (((-3) : Int32).toInt ≠ 1 → gce = gce) from by (have k9 : ((-3) : Int32).toInt = -3 := (by decide); intro h; exact rfl)), trivial⟩, zRet ht hP hD [5, 6, 0, 1, 2, 3, 4] (by decide) rfl⟩, hS.F ht⟩) hS.2.2 dX8_copy_108
                · exfalso; have fc_71 : x_58.toInt ≠ 0 := zf_ne c_71 rfl (by decide); omega
              · have fc_69 : x_58.toInt = 1 := zf_eq c_69 rfl (by decide)
                refine lv_aload_n hx hb dX8_copy_52 rfl (lv_at hl 0 rfl) ?_
                refine va_get (D := D) (ci := 8) (v := .ref mhe) (C := RX8) (T := TX8) (N := 38) hx hb hts hi_X8_copy_8 hown hK hP 0 rfl rfl 17 (by decide) (hts (.fieldLink RX8 47 "TheLiningsInItModel" "held" "[I") (List.mem_of_getElem? (i := 1) rfl)) (fun _ h9 => h9) rfl dX8_copy_53 ?_
                refine lv_iload_n hx hb dX8_copy_56 rfl (lv_at hl 2 rfl) ?_
                refine va_iald hx hb hK hP 2 0 rfl rfl (zf_in (by omega) (by omega)) dX8_copy_57 ?_
                refine lv_topi (fun y_75 ey_75 => ?_)
                obtain rfl : x_63 = y_75 := ex_63.trans ey_75.symm
                refine lv_iconst (v := 1) hx hb dX8_copy_58 (by decide) ?_
                refine lv_icmp_ne (tgt := 84) hx hb dX8_copy_59 (by decide) (fun c_76 => ?_) (fun c_76 => ?_)
                · have fc_76 : x_63.toInt ≠ 1 := zf_ne c_76 rfl (by decide)
                  refine lv_aload_n hx hb dX8_copy_84 rfl (lv_at hl 0 rfl) ?_
                  refine va_get (D := D) (ci := 8) (v := .ref mhe) (C := RX8) (T := TX8) (N := 38) hx hb hts hi_X8_copy_8 hown hK hP 0 rfl rfl 17 (by decide) (hts (.fieldLink RX8 47 "TheLiningsInItModel" "held" "[I") (List.mem_of_getElem? (i := 1) rfl)) (fun _ h9 => h9) rfl dX8_copy_85 ?_
                  refine lv_iload_n hx hb dX8_copy_88 rfl (lv_at hl 1 rfl) ?_
                  refine va_iald hx hb hK hP 2 0 rfl rfl (zf_in (by omega) (by omega)) dX8_copy_89 ?_
                  refine lv_topi (fun y_77 ey_77 => ?_)
                  obtain rfl : x_58 = y_77 := ex_58.trans ey_77.symm
                  refine lv_if_eq (tgt := 102) hx hb dX8_copy_90 (by decide) (fun c_78 => ?_) (fun c_78 => ?_)
                  · exfalso; have fc_78 : x_58.toInt = 0 := zf_eq c_78 rfl (by decide); omega
                  · have fc_78 : x_58.toInt ≠ 0 := zf_ne c_78 rfl (by decide)
                    refine lv_aload_n hx hb dX8_copy_93 rfl (lv_at hl 0 rfl) ?_
                    refine va_get (D := D) (ci := 8) (v := .ref mhe) (C := RX8) (T := TX8) (N := 38) hx hb hts hi_X8_copy_8 hown hK hP 0 rfl rfl 17 (by decide) (hts (.fieldLink RX8 47 "TheLiningsInItModel" "held" "[I") (List.mem_of_getElem? (i := 1) rfl)) (fun _ h9 => h9) rfl dX8_copy_94 ?_
                    refine lv_iload_n hx hb dX8_copy_97 rfl (lv_at hl 2 rfl) ?_
                    refine va_iald hx hb hK hP 2 0 rfl rfl (zf_in (by omega) (by omega)) dX8_copy_98 ?_
                    refine lv_topi (fun y_79 ey_79 => ?_)
                    obtain rfl : x_63 = y_79 := ex_63.trans ey_79.symm
                    refine lv_if_ne (tgt := 109) hx hb dX8_copy_99 (by decide) (fun c_80 => ?_) (fun c_80 => ?_)
                    · exfalso; have fc_80 : x_63.toInt ≠ 0 := zf_ne c_80 rfl (by decide); omega
                    · have fc_80 : x_63.toInt = 0 := zf_eq c_80 rfl (by decide)
                      refine lv_aload_n hx hb dX8_copy_102 rfl (lv_at hl 0 rfl) ?_
                      refine lv_bipush (v := (-3)) hx hb dX8_copy_103 (by decide) ?_
                      skip
                      refine zw_V (As := [.int (-3)]) (rest := []) (wr := [(mhe, .inl (cI, 8, .inl ghe)), (mso, .inl (cI, 8, .inl gso)), (msi, .inl (cI, 8, .inl gsi)), (mce, .inl (cJ, 1280, .inr (.inl gce))), (mca, .inl (cJ, 160, .inr (.inl gca)))]) ⟨hx, hb, hml, hown, hts⟩ (c_M_no_3 l D cI cJ cZ cP cS po m0 mrf mki mpa mta mla msl mco mhe mso msi msh mce mca mwo mnu mte mwa mke mma mth mtr (npu) (nte) (nat_) (nde) (nto) (nse) (nhu) (nga) (nsd) (nfa) (nba) (npl) (nen) (nnu) (nwr) (nra) (nik) grf hy0 hy1 hy2 hy3 hy4 hy5 hy6 hy7 hy8 hy9 hy10 hy11 hy12 hy13 H.size) (cwV 1 hts gX8_copy_X8_no rfl rfl rfl ⟨rfl, dh_X8_no⟩ ⟨Nat.le_of_ble_eq_true rfl, Nat.le_of_ble_eq_true rfl⟩) hK hN (hZ.kept hS) hP hD hS hA [0, 1] [2, 3, 4, 5, 6] rfl rfl (by decide) (by decide) (by decide) (va_recv (q := (RX8, TX8, 38)) hK hP (ci := 8) (q0 := 0) rfl rfl) rfl hl.1 rfl (Nat.le_of_ble_eq_true rfl) dX8_copy_105 ⟨Nat.le_of_ble_eq_true rfl, Nat.le_of_ble_eq_true rfl⟩ (fun r_81 u_82 H locs hr_81 hP hD hS => ?_)
                      obtain ⟨q_83, rfl⟩ : ∃ z, z = u_82 := ⟨_, rfl⟩
                      have h9R := zRe (ws' := [(mhe, .inl (cI, 8, .inl ghe)), (mso, .inl (cI, 8, .inl gso)), (msi, .inl (cI, 8, .inl gsi)), (mce, .inl (cJ, 1280, .inr (.inl gce))), (mca, .inl (cJ, 160, .inr (.inl gca))), (zMO m0 npu nte nat_ nde nto nse nhu nga nsd nfa mrf mki mpa mta mla msl mco mhe mso msi msh mce mca mwo mnu mte nba npl nen nnu nwr mwa mke mma mth mtr nra nik), (mrf, .inl (cI, 8, .inl q_83))]) hP hD rfl
                      clear hP hD
                      obtain ⟨hP, hD⟩ := h9R
                      obtain rfl := hr_81
                      exact W.iret (v := (-3)) hx hb hr (fun t ht hW => ⟨⟨(-3), (q_83, gce, gca), rfl, ⟨(show ((-3) : Int32).toInt = zCopR s_.toInt q_.toInt (zH2 (ghe s_.toNatClampNeg).toInt (gso s_.toNatClampNeg).toInt) (zH2 (ghe q_.toNatClampNeg).toInt (gso q_.toNatClampNeg).toInt) (gsi s_.toNatClampNeg).toInt (gsi q_.toNatClampNeg).toInt i.toInt j.toInt n.toInt from by (have k9 : ((-3) : Int32).toInt = -3 := (by decide); have gq1 := hp_gso s_.toNatClampNeg; have gq2 := hp_gso q_.toNatClampNeg; (try rw [← ex_58]); (try rw [← ex_63]); unfold zCopR zH2; (repeat (first | rw [if_pos (by omega)] | rw [if_neg (by omega)])) <;> omega)), (show (((-3) : Int32).toInt = 1 → ∀ m : Nat, gce m = (if 160 * q_.toInt + j.toInt ≤ (m : Int) ∧ (m : Int) < 160 * q_.toInt + j.toInt + n.toInt then gce (160 * s_.toInt + i.toInt + ((m : Int) - (160 * q_.toInt + j.toInt))).toNat else gce m)) from by (have k9 : ((-3) : Int32).toInt = -3 := (by decide); intro h; exfalso; omega)), (show (((-3) : Int32).toInt ≠ 1 → gce = gce) from by (have k9 : ((-3) : Int32).toInt = -3 := (by decide); intro h; exact rfl)), trivial⟩, zRet ht hP hD [5, 6, 0, 1, 2, 3, 4] (by decide) rfl⟩, hS.F ht⟩) hS.2.2 dX8_copy_108
                · have fc_76 : x_63.toInt = 1 := zf_eq c_76 rfl (by decide)
                  refine lv_aload_n hx hb dX8_copy_62 rfl (lv_at hl 0 rfl) ?_
                  refine va_get (D := D) (ci := 8) (v := .ref mso) (C := RX8) (T := TX8) (N := 38) hx hb hts hi_X8_copy_8 hown hK hP 0 rfl rfl 18 (by decide) (hts (.fieldLink RX8 50 "TheLiningsInItModel" "sort" "[I") (List.mem_of_getElem? (i := 2) rfl)) (fun _ h9 => h9) rfl dX8_copy_63 ?_
                  refine lv_iload_n hx hb dX8_copy_66 rfl (lv_at hl 1 rfl) ?_
                  refine va_iald hx hb hK hP 3 0 rfl rfl (zf_in (by omega) (by omega)) dX8_copy_67 ?_
                  refine lv_topi (fun x_84 ex_84 => ?_)
                  have bx_84 : 0 ≤ x_84.toInt ∧ x_84.toInt ≤ 3 := by rw [ex_84]; exact hp_gso _
                  refine lv_aload_n hx hb dX8_copy_68 rfl (lv_at hl 0 rfl) ?_
                  refine va_get (D := D) (ci := 8) (v := .ref mso) (C := RX8) (T := TX8) (N := 38) hx hb hts hi_X8_copy_8 hown hK hP 0 rfl rfl 18 (by decide) (hts (.fieldLink RX8 50 "TheLiningsInItModel" "sort" "[I") (List.mem_of_getElem? (i := 2) rfl)) (fun _ h9 => h9) rfl dX8_copy_69 ?_
                  refine lv_iload_n hx hb dX8_copy_72 rfl (lv_at hl 2 rfl) ?_
                  refine va_iald hx hb hK hP 3 0 rfl rfl (zf_in (by omega) (by omega)) dX8_copy_73 ?_
                  refine lv_topi (fun x_85 ex_85 => ?_)
                  have bx_85 : 0 ≤ x_85.toInt ∧ x_85.toInt ≤ 3 := by rw [ex_85]; exact hp_gso _
                  refine lv_icmp_eq (tgt := 84) hx hb dX8_copy_74 (by decide) (fun c_86 => ?_) (fun c_86 => ?_)
                  · have fc_86 : x_84.toInt = x_85.toInt := zf_eq c_86 rfl rfl
                    refine lv_aload_n hx hb dX8_copy_84 rfl (lv_at hl 0 rfl) ?_
                    refine va_get (D := D) (ci := 8) (v := .ref mhe) (C := RX8) (T := TX8) (N := 38) hx hb hts hi_X8_copy_8 hown hK hP 0 rfl rfl 17 (by decide) (hts (.fieldLink RX8 47 "TheLiningsInItModel" "held" "[I") (List.mem_of_getElem? (i := 1) rfl)) (fun _ h9 => h9) rfl dX8_copy_85 ?_
                    refine lv_iload_n hx hb dX8_copy_88 rfl (lv_at hl 1 rfl) ?_
                    refine va_iald hx hb hK hP 2 0 rfl rfl (zf_in (by omega) (by omega)) dX8_copy_89 ?_
                    refine lv_topi (fun y_87 ey_87 => ?_)
                    obtain rfl : x_58 = y_87 := ex_58.trans ey_87.symm
                    refine lv_if_eq (tgt := 102) hx hb dX8_copy_90 (by decide) (fun c_88 => ?_) (fun c_88 => ?_)
                    · exfalso; have fc_88 : x_58.toInt = 0 := zf_eq c_88 rfl (by decide); omega
                    · have fc_88 : x_58.toInt ≠ 0 := zf_ne c_88 rfl (by decide)
                      refine lv_aload_n hx hb dX8_copy_93 rfl (lv_at hl 0 rfl) ?_
                      refine va_get (D := D) (ci := 8) (v := .ref mhe) (C := RX8) (T := TX8) (N := 38) hx hb hts hi_X8_copy_8 hown hK hP 0 rfl rfl 17 (by decide) (hts (.fieldLink RX8 47 "TheLiningsInItModel" "held" "[I") (List.mem_of_getElem? (i := 1) rfl)) (fun _ h9 => h9) rfl dX8_copy_94 ?_
                      refine lv_iload_n hx hb dX8_copy_97 rfl (lv_at hl 2 rfl) ?_
                      refine va_iald hx hb hK hP 2 0 rfl rfl (zf_in (by omega) (by omega)) dX8_copy_98 ?_
                      refine lv_topi (fun y_89 ey_89 => ?_)
                      obtain rfl : x_63 = y_89 := ex_63.trans ey_89.symm
                      refine lv_if_ne (tgt := 109) hx hb dX8_copy_99 (by decide) (fun c_90 => ?_) (fun c_90 => ?_)
                      · have fc_90 : x_63.toInt ≠ 0 := zf_ne c_90 rfl (by decide)
                        refine lv_iload hx hb dX8_copy_109 (lv_at hl 5 rfl) ?_
                        refine lv_if_ge (tgt := 121) hx hb dX8_copy_111 (by decide) (fun c_91 => ?_) (fun c_91 => ?_)
                        · have fc_91 : 0 ≤ n.toInt := zf_le c_91 (by decide) rfl
                          refine lv_iload_n hx hb dX8_copy_121 rfl (lv_at hl 3 rfl) ?_
                          refine lv_if_lt (tgt := 157) hx hb dX8_copy_122 (by decide) (fun c_92 => ?_) (fun c_92 => ?_)
                          · have fc_92 : i.toInt < 0 := zf_lt c_92 rfl (by decide)
                            refine lv_aload_n hx hb dX8_copy_157 rfl (lv_at hl 0 rfl) ?_
                            refine lv_bipush (v := (-5)) hx hb dX8_copy_158 (by decide) ?_
                            skip
                            refine zw_V (As := [.int (-5)]) (rest := []) (wr := [(mhe, .inl (cI, 8, .inl ghe)), (mso, .inl (cI, 8, .inl gso)), (msi, .inl (cI, 8, .inl gsi)), (mce, .inl (cJ, 1280, .inr (.inl gce))), (mca, .inl (cJ, 160, .inr (.inl gca)))]) ⟨hx, hb, hml, hown, hts⟩ (c_M_no_5 l D cI cJ cZ cP cS po m0 mrf mki mpa mta mla msl mco mhe mso msi msh mce mca mwo mnu mte mwa mke mma mth mtr (npu) (nte) (nat_) (nde) (nto) (nse) (nhu) (nga) (nsd) (nfa) (nba) (npl) (nen) (nnu) (nwr) (nra) (nik) grf hy0 hy1 hy2 hy3 hy4 hy5 hy6 hy7 hy8 hy9 hy10 hy11 hy12 hy13 H.size) (cwV 1 hts gX8_copy_X8_no rfl rfl rfl ⟨rfl, dh_X8_no⟩ ⟨Nat.le_of_ble_eq_true rfl, Nat.le_of_ble_eq_true rfl⟩) hK hN (hZ.kept hS) hP hD hS hA [0, 1] [2, 3, 4, 5, 6] rfl rfl (by decide) (by decide) (by decide) (va_recv (q := (RX8, TX8, 38)) hK hP (ci := 8) (q0 := 0) rfl rfl) rfl hl.1 rfl (Nat.le_of_ble_eq_true rfl) dX8_copy_160 ⟨Nat.le_of_ble_eq_true rfl, Nat.le_of_ble_eq_true rfl⟩ (fun r_93 u_94 H locs hr_93 hP hD hS => ?_)
                            obtain ⟨q_95, rfl⟩ : ∃ z, z = u_94 := ⟨_, rfl⟩
                            have h9R := zRe (ws' := [(mhe, .inl (cI, 8, .inl ghe)), (mso, .inl (cI, 8, .inl gso)), (msi, .inl (cI, 8, .inl gsi)), (mce, .inl (cJ, 1280, .inr (.inl gce))), (mca, .inl (cJ, 160, .inr (.inl gca))), (zMO m0 npu nte nat_ nde nto nse nhu nga nsd nfa mrf mki mpa mta mla msl mco mhe mso msi msh mce mca mwo mnu mte nba npl nen nnu nwr mwa mke mma mth mtr nra nik), (mrf, .inl (cI, 8, .inl q_95))]) hP hD rfl
                            clear hP hD
                            obtain ⟨hP, hD⟩ := h9R
                            obtain rfl := hr_93
                            exact W.iret (v := (-5)) hx hb hr (fun t ht hW => ⟨⟨(-5), (q_95, gce, gca), rfl, ⟨(show ((-5) : Int32).toInt = zCopR s_.toInt q_.toInt (zH2 (ghe s_.toNatClampNeg).toInt (gso s_.toNatClampNeg).toInt) (zH2 (ghe q_.toNatClampNeg).toInt (gso q_.toNatClampNeg).toInt) (gsi s_.toNatClampNeg).toInt (gsi q_.toNatClampNeg).toInt i.toInt j.toInt n.toInt from by (have k9 : ((-5) : Int32).toInt = -5 := (by decide); have gq1 := hp_gso s_.toNatClampNeg; have gq2 := hp_gso q_.toNatClampNeg; (try rw [← ex_58]); (try rw [← ex_63]); (try rw [← ex_84]); (try rw [← ex_85]); unfold zCopR zH2; (repeat (first | rw [if_pos (by omega)] | rw [if_neg (by omega)])) <;> omega)), (show (((-5) : Int32).toInt = 1 → ∀ m : Nat, gce m = (if 160 * q_.toInt + j.toInt ≤ (m : Int) ∧ (m : Int) < 160 * q_.toInt + j.toInt + n.toInt then gce (160 * s_.toInt + i.toInt + ((m : Int) - (160 * q_.toInt + j.toInt))).toNat else gce m)) from by (have k9 : ((-5) : Int32).toInt = -5 := (by decide); intro h; exfalso; omega)), (show (((-5) : Int32).toInt ≠ 1 → gce = gce) from by (have k9 : ((-5) : Int32).toInt = -5 := (by decide); intro h; exact rfl)), trivial⟩, zRet ht hP hD [5, 6, 0, 1, 2, 3, 4] (by decide) rfl⟩, hS.F ht⟩) hS.2.2 dX8_copy_163
                          · have fc_92 : 0 ≤ i.toInt := zf_nlt c_92 rfl (by decide)
                            refine lv_iload hx hb dX8_copy_125 (lv_at hl 4 rfl) ?_
                            refine lv_if_lt (tgt := 157) hx hb dX8_copy_127 (by decide) (fun c_96 => ?_) (fun c_96 => ?_)
                            · have fc_96 : j.toInt < 0 := zf_lt c_96 rfl (by decide)
                              refine lv_aload_n hx hb dX8_copy_157 rfl (lv_at hl 0 rfl) ?_
                              refine lv_bipush (v := (-5)) hx hb dX8_copy_158 (by decide) ?_
                              skip
                              refine zw_V (As := [.int (-5)]) (rest := []) (wr := [(mhe, .inl (cI, 8, .inl ghe)), (mso, .inl (cI, 8, .inl gso)), (msi, .inl (cI, 8, .inl gsi)), (mce, .inl (cJ, 1280, .inr (.inl gce))), (mca, .inl (cJ, 160, .inr (.inl gca)))]) ⟨hx, hb, hml, hown, hts⟩ (c_M_no_5 l D cI cJ cZ cP cS po m0 mrf mki mpa mta mla msl mco mhe mso msi msh mce mca mwo mnu mte mwa mke mma mth mtr (npu) (nte) (nat_) (nde) (nto) (nse) (nhu) (nga) (nsd) (nfa) (nba) (npl) (nen) (nnu) (nwr) (nra) (nik) grf hy0 hy1 hy2 hy3 hy4 hy5 hy6 hy7 hy8 hy9 hy10 hy11 hy12 hy13 H.size) (cwV 1 hts gX8_copy_X8_no rfl rfl rfl ⟨rfl, dh_X8_no⟩ ⟨Nat.le_of_ble_eq_true rfl, Nat.le_of_ble_eq_true rfl⟩) hK hN (hZ.kept hS) hP hD hS hA [0, 1] [2, 3, 4, 5, 6] rfl rfl (by decide) (by decide) (by decide) (va_recv (q := (RX8, TX8, 38)) hK hP (ci := 8) (q0 := 0) rfl rfl) rfl hl.1 rfl (Nat.le_of_ble_eq_true rfl) dX8_copy_160 ⟨Nat.le_of_ble_eq_true rfl, Nat.le_of_ble_eq_true rfl⟩ (fun r_97 u_98 H locs hr_97 hP hD hS => ?_)
                              obtain ⟨q_99, rfl⟩ : ∃ z, z = u_98 := ⟨_, rfl⟩
                              have h9R := zRe (ws' := [(mhe, .inl (cI, 8, .inl ghe)), (mso, .inl (cI, 8, .inl gso)), (msi, .inl (cI, 8, .inl gsi)), (mce, .inl (cJ, 1280, .inr (.inl gce))), (mca, .inl (cJ, 160, .inr (.inl gca))), (zMO m0 npu nte nat_ nde nto nse nhu nga nsd nfa mrf mki mpa mta mla msl mco mhe mso msi msh mce mca mwo mnu mte nba npl nen nnu nwr mwa mke mma mth mtr nra nik), (mrf, .inl (cI, 8, .inl q_99))]) hP hD rfl
                              clear hP hD
                              obtain ⟨hP, hD⟩ := h9R
                              obtain rfl := hr_97
                              exact W.iret (v := (-5)) hx hb hr (fun t ht hW => ⟨⟨(-5), (q_99, gce, gca), rfl, ⟨(show ((-5) : Int32).toInt = zCopR s_.toInt q_.toInt (zH2 (ghe s_.toNatClampNeg).toInt (gso s_.toNatClampNeg).toInt) (zH2 (ghe q_.toNatClampNeg).toInt (gso q_.toNatClampNeg).toInt) (gsi s_.toNatClampNeg).toInt (gsi q_.toNatClampNeg).toInt i.toInt j.toInt n.toInt from by (have k9 : ((-5) : Int32).toInt = -5 := (by decide); have gq1 := hp_gso s_.toNatClampNeg; have gq2 := hp_gso q_.toNatClampNeg; (try rw [← ex_58]); (try rw [← ex_63]); (try rw [← ex_84]); (try rw [← ex_85]); unfold zCopR zH2; (repeat (first | rw [if_pos (by omega)] | rw [if_neg (by omega)])) <;> omega)), (show (((-5) : Int32).toInt = 1 → ∀ m : Nat, gce m = (if 160 * q_.toInt + j.toInt ≤ (m : Int) ∧ (m : Int) < 160 * q_.toInt + j.toInt + n.toInt then gce (160 * s_.toInt + i.toInt + ((m : Int) - (160 * q_.toInt + j.toInt))).toNat else gce m)) from by (have k9 : ((-5) : Int32).toInt = -5 := (by decide); intro h; exfalso; omega)), (show (((-5) : Int32).toInt ≠ 1 → gce = gce) from by (have k9 : ((-5) : Int32).toInt = -5 := (by decide); intro h; exact rfl)), trivial⟩, zRet ht hP hD [5, 6, 0, 1, 2, 3, 4] (by decide) rfl⟩, hS.F ht⟩) hS.2.2 dX8_copy_163
                            · have fc_96 : 0 ≤ j.toInt := zf_nlt c_96 rfl (by decide)
                              refine lv_iload_n hx hb dX8_copy_130 rfl (lv_at hl 3 rfl) ?_
                              refine lv_aload_n hx hb dX8_copy_131 rfl (lv_at hl 0 rfl) ?_
                              refine va_get (D := D) (ci := 8) (v := .ref msi) (C := RX8) (T := TX8) (N := 38) hx hb hts hi_X8_copy_8 hown hK hP 0 rfl rfl 19 (by decide) (hts (.fieldLink RX8 53 "TheLiningsInItModel" "size" "[I") (List.mem_of_getElem? (i := 3) rfl)) (fun _ h9 => h9) rfl dX8_copy_132 ?_
                              refine lv_iload_n hx hb dX8_copy_135 rfl (lv_at hl 1 rfl) ?_
                              refine va_iald hx hb hK hP 4 0 rfl rfl (zf_in (by omega) (by omega)) dX8_copy_136 ?_
                              refine lv_topi (fun x_100 ex_100 => ?_)
                              have bx_100 : 0 ≤ x_100.toInt ∧ x_100.toInt ≤ 160 := by rw [ex_100]; exact hp_gsi _
                              refine lv_iload hx hb dX8_copy_137 (lv_at hl 5 rfl) ?_
                              refine lv_isub hx hb dX8_copy_139 ?_
                              refine lv_topi (fun x_101 ex_101 => ?_)
                              have rbx_101 := zf_rng n
                              have qx_101 : x_101.toInt = x_100.toInt - n.toInt := by rw [ex_101]; exact zf_sub rfl rfl (by omega) (by omega)
                              refine lv_icmp_gt (tgt := 157) hx hb dX8_copy_140 (by decide) (fun c_102 => ?_) (fun c_102 => ?_)
                              · have fc_102 : x_101.toInt < i.toInt := zf_lt c_102 rfl rfl
                                refine lv_aload_n hx hb dX8_copy_157 rfl (lv_at hl 0 rfl) ?_
                                refine lv_bipush (v := (-5)) hx hb dX8_copy_158 (by decide) ?_
                                skip
                                refine zw_V (As := [.int (-5)]) (rest := []) (wr := [(mhe, .inl (cI, 8, .inl ghe)), (mso, .inl (cI, 8, .inl gso)), (msi, .inl (cI, 8, .inl gsi)), (mce, .inl (cJ, 1280, .inr (.inl gce))), (mca, .inl (cJ, 160, .inr (.inl gca)))]) ⟨hx, hb, hml, hown, hts⟩ (c_M_no_5 l D cI cJ cZ cP cS po m0 mrf mki mpa mta mla msl mco mhe mso msi msh mce mca mwo mnu mte mwa mke mma mth mtr (npu) (nte) (nat_) (nde) (nto) (nse) (nhu) (nga) (nsd) (nfa) (nba) (npl) (nen) (nnu) (nwr) (nra) (nik) grf hy0 hy1 hy2 hy3 hy4 hy5 hy6 hy7 hy8 hy9 hy10 hy11 hy12 hy13 H.size) (cwV 1 hts gX8_copy_X8_no rfl rfl rfl ⟨rfl, dh_X8_no⟩ ⟨Nat.le_of_ble_eq_true rfl, Nat.le_of_ble_eq_true rfl⟩) hK hN (hZ.kept hS) hP hD hS hA [0, 1] [2, 3, 4, 5, 6] rfl rfl (by decide) (by decide) (by decide) (va_recv (q := (RX8, TX8, 38)) hK hP (ci := 8) (q0 := 0) rfl rfl) rfl hl.1 rfl (Nat.le_of_ble_eq_true rfl) dX8_copy_160 ⟨Nat.le_of_ble_eq_true rfl, Nat.le_of_ble_eq_true rfl⟩ (fun r_103 u_104 H locs hr_103 hP hD hS => ?_)
                                obtain ⟨q_105, rfl⟩ : ∃ z, z = u_104 := ⟨_, rfl⟩
                                have h9R := zRe (ws' := [(mhe, .inl (cI, 8, .inl ghe)), (mso, .inl (cI, 8, .inl gso)), (msi, .inl (cI, 8, .inl gsi)), (mce, .inl (cJ, 1280, .inr (.inl gce))), (mca, .inl (cJ, 160, .inr (.inl gca))), (zMO m0 npu nte nat_ nde nto nse nhu nga nsd nfa mrf mki mpa mta mla msl mco mhe mso msi msh mce mca mwo mnu mte nba npl nen nnu nwr mwa mke mma mth mtr nra nik), (mrf, .inl (cI, 8, .inl q_105))]) hP hD rfl
                                clear hP hD
                                obtain ⟨hP, hD⟩ := h9R
                                obtain rfl := hr_103
                                exact W.iret (v := (-5)) hx hb hr (fun t ht hW => ⟨⟨(-5), (q_105, gce, gca), rfl, ⟨(show ((-5) : Int32).toInt = zCopR s_.toInt q_.toInt (zH2 (ghe s_.toNatClampNeg).toInt (gso s_.toNatClampNeg).toInt) (zH2 (ghe q_.toNatClampNeg).toInt (gso q_.toNatClampNeg).toInt) (gsi s_.toNatClampNeg).toInt (gsi q_.toNatClampNeg).toInt i.toInt j.toInt n.toInt from by (have k9 : ((-5) : Int32).toInt = -5 := (by decide); have gq1 := hp_gso s_.toNatClampNeg; have gq2 := hp_gso q_.toNatClampNeg; (try rw [← ex_58]); (try rw [← ex_63]); (try rw [← ex_84]); (try rw [← ex_85]); (try rw [← ex_100]); unfold zCopR zH2; (repeat (first | rw [if_pos (by omega)] | rw [if_neg (by omega)])) <;> omega)), (show (((-5) : Int32).toInt = 1 → ∀ m : Nat, gce m = (if 160 * q_.toInt + j.toInt ≤ (m : Int) ∧ (m : Int) < 160 * q_.toInt + j.toInt + n.toInt then gce (160 * s_.toInt + i.toInt + ((m : Int) - (160 * q_.toInt + j.toInt))).toNat else gce m)) from by (have k9 : ((-5) : Int32).toInt = -5 := (by decide); intro h; exfalso; omega)), (show (((-5) : Int32).toInt ≠ 1 → gce = gce) from by (have k9 : ((-5) : Int32).toInt = -5 := (by decide); intro h; exact rfl)), trivial⟩, zRet ht hP hD [5, 6, 0, 1, 2, 3, 4] (by decide) rfl⟩, hS.F ht⟩) hS.2.2 dX8_copy_163
                              · have fc_102 : i.toInt ≤ x_101.toInt := zf_nlt c_102 rfl rfl
                                refine lv_iload hx hb dX8_copy_143 (lv_at hl 4 rfl) ?_
                                refine lv_aload_n hx hb dX8_copy_145 rfl (lv_at hl 0 rfl) ?_
                                refine va_get (D := D) (ci := 8) (v := .ref msi) (C := RX8) (T := TX8) (N := 38) hx hb hts hi_X8_copy_8 hown hK hP 0 rfl rfl 19 (by decide) (hts (.fieldLink RX8 53 "TheLiningsInItModel" "size" "[I") (List.mem_of_getElem? (i := 3) rfl)) (fun _ h9 => h9) rfl dX8_copy_146 ?_
                                refine lv_iload_n hx hb dX8_copy_149 rfl (lv_at hl 2 rfl) ?_
                                refine va_iald hx hb hK hP 4 0 rfl rfl (zf_in (by omega) (by omega)) dX8_copy_150 ?_
                                refine lv_topi (fun x_106 ex_106 => ?_)
                                have bx_106 : 0 ≤ x_106.toInt ∧ x_106.toInt ≤ 160 := by rw [ex_106]; exact hp_gsi _
                                refine lv_iload hx hb dX8_copy_151 (lv_at hl 5 rfl) ?_
                                refine lv_isub hx hb dX8_copy_153 ?_
                                refine lv_topi (fun x_107 ex_107 => ?_)
                                have rbx_107 := zf_rng n
                                have qx_107 : x_107.toInt = x_106.toInt - n.toInt := by rw [ex_107]; exact zf_sub rfl rfl (by omega) (by omega)
                                refine lv_icmp_le (tgt := 164) hx hb dX8_copy_154 (by decide) (fun c_108 => ?_) (fun c_108 => ?_)
                                · have fc_108 : j.toInt ≤ x_107.toInt := zf_le c_108 rfl rfl
                                  exact hcut164 H locs ls  hP hD hS (lv_sub hl [0, 1, 2, 3, 4, 5] rfl) (by first | omega | assumption | (simp; done) | (simp; omega)) (by have gq1 := hp_gso s_.toNatClampNeg; have gq2 := hp_gso q_.toNatClampNeg; (try rw [← ex_58]); (try rw [← ex_63]); (try rw [← ex_84]); (try rw [← ex_85]); (try rw [← ex_100]); (try rw [← ex_106]); unfold zCopR zH2; (repeat (first | rw [if_pos (by omega)] | rw [if_neg (by omega)])) <;> omega)
                                · have fc_108 : x_107.toInt < j.toInt := zf_nle c_108 rfl rfl
                                  refine lv_aload_n hx hb dX8_copy_157 rfl (lv_at hl 0 rfl) ?_
                                  refine lv_bipush (v := (-5)) hx hb dX8_copy_158 (by decide) ?_
                                  skip
                                  refine zw_V (As := [.int (-5)]) (rest := []) (wr := [(mhe, .inl (cI, 8, .inl ghe)), (mso, .inl (cI, 8, .inl gso)), (msi, .inl (cI, 8, .inl gsi)), (mce, .inl (cJ, 1280, .inr (.inl gce))), (mca, .inl (cJ, 160, .inr (.inl gca)))]) ⟨hx, hb, hml, hown, hts⟩ (c_M_no_5 l D cI cJ cZ cP cS po m0 mrf mki mpa mta mla msl mco mhe mso msi msh mce mca mwo mnu mte mwa mke mma mth mtr (npu) (nte) (nat_) (nde) (nto) (nse) (nhu) (nga) (nsd) (nfa) (nba) (npl) (nen) (nnu) (nwr) (nra) (nik) grf hy0 hy1 hy2 hy3 hy4 hy5 hy6 hy7 hy8 hy9 hy10 hy11 hy12 hy13 H.size) (cwV 1 hts gX8_copy_X8_no rfl rfl rfl ⟨rfl, dh_X8_no⟩ ⟨Nat.le_of_ble_eq_true rfl, Nat.le_of_ble_eq_true rfl⟩) hK hN (hZ.kept hS) hP hD hS hA [0, 1] [2, 3, 4, 5, 6] rfl rfl (by decide) (by decide) (by decide) (va_recv (q := (RX8, TX8, 38)) hK hP (ci := 8) (q0 := 0) rfl rfl) rfl hl.1 rfl (Nat.le_of_ble_eq_true rfl) dX8_copy_160 ⟨Nat.le_of_ble_eq_true rfl, Nat.le_of_ble_eq_true rfl⟩ (fun r_109 u_110 H locs hr_109 hP hD hS => ?_)
                                  obtain ⟨q_111, rfl⟩ : ∃ z, z = u_110 := ⟨_, rfl⟩
                                  have h9R := zRe (ws' := [(mhe, .inl (cI, 8, .inl ghe)), (mso, .inl (cI, 8, .inl gso)), (msi, .inl (cI, 8, .inl gsi)), (mce, .inl (cJ, 1280, .inr (.inl gce))), (mca, .inl (cJ, 160, .inr (.inl gca))), (zMO m0 npu nte nat_ nde nto nse nhu nga nsd nfa mrf mki mpa mta mla msl mco mhe mso msi msh mce mca mwo mnu mte nba npl nen nnu nwr mwa mke mma mth mtr nra nik), (mrf, .inl (cI, 8, .inl q_111))]) hP hD rfl
                                  clear hP hD
                                  obtain ⟨hP, hD⟩ := h9R
                                  obtain rfl := hr_109
                                  exact W.iret (v := (-5)) hx hb hr (fun t ht hW => ⟨⟨(-5), (q_111, gce, gca), rfl, ⟨(show ((-5) : Int32).toInt = zCopR s_.toInt q_.toInt (zH2 (ghe s_.toNatClampNeg).toInt (gso s_.toNatClampNeg).toInt) (zH2 (ghe q_.toNatClampNeg).toInt (gso q_.toNatClampNeg).toInt) (gsi s_.toNatClampNeg).toInt (gsi q_.toNatClampNeg).toInt i.toInt j.toInt n.toInt from by (have k9 : ((-5) : Int32).toInt = -5 := (by decide); have gq1 := hp_gso s_.toNatClampNeg; have gq2 := hp_gso q_.toNatClampNeg; (try rw [← ex_58]); (try rw [← ex_63]); (try rw [← ex_84]); (try rw [← ex_85]); (try rw [← ex_100]); (try rw [← ex_106]); unfold zCopR zH2; (repeat (first | rw [if_pos (by omega)] | rw [if_neg (by omega)])) <;> omega)), (show (((-5) : Int32).toInt = 1 → ∀ m : Nat, gce m = (if 160 * q_.toInt + j.toInt ≤ (m : Int) ∧ (m : Int) < 160 * q_.toInt + j.toInt + n.toInt then gce (160 * s_.toInt + i.toInt + ((m : Int) - (160 * q_.toInt + j.toInt))).toNat else gce m)) from by (have k9 : ((-5) : Int32).toInt = -5 := (by decide); intro h; exfalso; omega)), (show (((-5) : Int32).toInt ≠ 1 → gce = gce) from by (have k9 : ((-5) : Int32).toInt = -5 := (by decide); intro h; exact rfl)), trivial⟩, zRet ht hP hD [5, 6, 0, 1, 2, 3, 4] (by decide) rfl⟩, hS.F ht⟩) hS.2.2 dX8_copy_163
                        · have fc_91 : n.toInt < 0 := zf_nle c_91 (by decide) rfl
                          refine lv_aload_n hx hb dX8_copy_114 rfl (lv_at hl 0 rfl) ?_
                          refine lv_bipush (v := (-4)) hx hb dX8_copy_115 (by decide) ?_
                          skip
                          refine zw_V (As := [.int (-4)]) (rest := []) (wr := [(mhe, .inl (cI, 8, .inl ghe)), (mso, .inl (cI, 8, .inl gso)), (msi, .inl (cI, 8, .inl gsi)), (mce, .inl (cJ, 1280, .inr (.inl gce))), (mca, .inl (cJ, 160, .inr (.inl gca)))]) ⟨hx, hb, hml, hown, hts⟩ (c_M_no_4 l D cI cJ cZ cP cS po m0 mrf mki mpa mta mla msl mco mhe mso msi msh mce mca mwo mnu mte mwa mke mma mth mtr (npu) (nte) (nat_) (nde) (nto) (nse) (nhu) (nga) (nsd) (nfa) (nba) (npl) (nen) (nnu) (nwr) (nra) (nik) grf hy0 hy1 hy2 hy3 hy4 hy5 hy6 hy7 hy8 hy9 hy10 hy11 hy12 hy13 H.size) (cwV 1 hts gX8_copy_X8_no rfl rfl rfl ⟨rfl, dh_X8_no⟩ ⟨Nat.le_of_ble_eq_true rfl, Nat.le_of_ble_eq_true rfl⟩) hK hN (hZ.kept hS) hP hD hS hA [0, 1] [2, 3, 4, 5, 6] rfl rfl (by decide) (by decide) (by decide) (va_recv (q := (RX8, TX8, 38)) hK hP (ci := 8) (q0 := 0) rfl rfl) rfl hl.1 rfl (Nat.le_of_ble_eq_true rfl) dX8_copy_117 ⟨Nat.le_of_ble_eq_true rfl, Nat.le_of_ble_eq_true rfl⟩ (fun r_112 u_113 H locs hr_112 hP hD hS => ?_)
                          obtain ⟨q_114, rfl⟩ : ∃ z, z = u_113 := ⟨_, rfl⟩
                          have h9R := zRe (ws' := [(mhe, .inl (cI, 8, .inl ghe)), (mso, .inl (cI, 8, .inl gso)), (msi, .inl (cI, 8, .inl gsi)), (mce, .inl (cJ, 1280, .inr (.inl gce))), (mca, .inl (cJ, 160, .inr (.inl gca))), (zMO m0 npu nte nat_ nde nto nse nhu nga nsd nfa mrf mki mpa mta mla msl mco mhe mso msi msh mce mca mwo mnu mte nba npl nen nnu nwr mwa mke mma mth mtr nra nik), (mrf, .inl (cI, 8, .inl q_114))]) hP hD rfl
                          clear hP hD
                          obtain ⟨hP, hD⟩ := h9R
                          obtain rfl := hr_112
                          exact W.iret (v := (-4)) hx hb hr (fun t ht hW => ⟨⟨(-4), (q_114, gce, gca), rfl, ⟨(show ((-4) : Int32).toInt = zCopR s_.toInt q_.toInt (zH2 (ghe s_.toNatClampNeg).toInt (gso s_.toNatClampNeg).toInt) (zH2 (ghe q_.toNatClampNeg).toInt (gso q_.toNatClampNeg).toInt) (gsi s_.toNatClampNeg).toInt (gsi q_.toNatClampNeg).toInt i.toInt j.toInt n.toInt from by (have k9 : ((-4) : Int32).toInt = -4 := (by decide); have gq1 := hp_gso s_.toNatClampNeg; have gq2 := hp_gso q_.toNatClampNeg; (try rw [← ex_58]); (try rw [← ex_63]); (try rw [← ex_84]); (try rw [← ex_85]); unfold zCopR zH2; (repeat (first | rw [if_pos (by omega)] | rw [if_neg (by omega)])) <;> omega)), (show (((-4) : Int32).toInt = 1 → ∀ m : Nat, gce m = (if 160 * q_.toInt + j.toInt ≤ (m : Int) ∧ (m : Int) < 160 * q_.toInt + j.toInt + n.toInt then gce (160 * s_.toInt + i.toInt + ((m : Int) - (160 * q_.toInt + j.toInt))).toNat else gce m)) from by (have k9 : ((-4) : Int32).toInt = -4 := (by decide); intro h; exfalso; omega)), (show (((-4) : Int32).toInt ≠ 1 → gce = gce) from by (have k9 : ((-4) : Int32).toInt = -4 := (by decide); intro h; exact rfl)), trivial⟩, zRet ht hP hD [5, 6, 0, 1, 2, 3, 4] (by decide) rfl⟩, hS.F ht⟩) hS.2.2 dX8_copy_120
                      · exfalso; have fc_90 : x_63.toInt = 0 := zf_eq c_90 rfl (by decide); omega
                  · have fc_86 : x_84.toInt ≠ x_85.toInt := zf_ne c_86 rfl rfl
                    refine lv_aload_n hx hb dX8_copy_77 rfl (lv_at hl 0 rfl) ?_
                    refine lv_bipush (v := (-2)) hx hb dX8_copy_78 (by decide) ?_
                    skip
                    refine zw_V (As := [.int (-2)]) (rest := []) (wr := [(mhe, .inl (cI, 8, .inl ghe)), (mso, .inl (cI, 8, .inl gso)), (msi, .inl (cI, 8, .inl gsi)), (mce, .inl (cJ, 1280, .inr (.inl gce))), (mca, .inl (cJ, 160, .inr (.inl gca)))]) ⟨hx, hb, hml, hown, hts⟩ (c_M_no_2 l D cI cJ cZ cP cS po m0 mrf mki mpa mta mla msl mco mhe mso msi msh mce mca mwo mnu mte mwa mke mma mth mtr (npu) (nte) (nat_) (nde) (nto) (nse) (nhu) (nga) (nsd) (nfa) (nba) (npl) (nen) (nnu) (nwr) (nra) (nik) grf hy0 hy1 hy2 hy3 hy4 hy5 hy6 hy7 hy8 hy9 hy10 hy11 hy12 hy13 H.size) (cwV 1 hts gX8_copy_X8_no rfl rfl rfl ⟨rfl, dh_X8_no⟩ ⟨Nat.le_of_ble_eq_true rfl, Nat.le_of_ble_eq_true rfl⟩) hK hN (hZ.kept hS) hP hD hS hA [0, 1] [2, 3, 4, 5, 6] rfl rfl (by decide) (by decide) (by decide) (va_recv (q := (RX8, TX8, 38)) hK hP (ci := 8) (q0 := 0) rfl rfl) rfl hl.1 rfl (Nat.le_of_ble_eq_true rfl) dX8_copy_80 ⟨Nat.le_of_ble_eq_true rfl, Nat.le_of_ble_eq_true rfl⟩ (fun r_115 u_116 H locs hr_115 hP hD hS => ?_)
                    obtain ⟨q_117, rfl⟩ : ∃ z, z = u_116 := ⟨_, rfl⟩
                    have h9R := zRe (ws' := [(mhe, .inl (cI, 8, .inl ghe)), (mso, .inl (cI, 8, .inl gso)), (msi, .inl (cI, 8, .inl gsi)), (mce, .inl (cJ, 1280, .inr (.inl gce))), (mca, .inl (cJ, 160, .inr (.inl gca))), (zMO m0 npu nte nat_ nde nto nse nhu nga nsd nfa mrf mki mpa mta mla msl mco mhe mso msi msh mce mca mwo mnu mte nba npl nen nnu nwr mwa mke mma mth mtr nra nik), (mrf, .inl (cI, 8, .inl q_117))]) hP hD rfl
                    clear hP hD
                    obtain ⟨hP, hD⟩ := h9R
                    obtain rfl := hr_115
                    exact W.iret (v := (-2)) hx hb hr (fun t ht hW => ⟨⟨(-2), (q_117, gce, gca), rfl, ⟨(show ((-2) : Int32).toInt = zCopR s_.toInt q_.toInt (zH2 (ghe s_.toNatClampNeg).toInt (gso s_.toNatClampNeg).toInt) (zH2 (ghe q_.toNatClampNeg).toInt (gso q_.toNatClampNeg).toInt) (gsi s_.toNatClampNeg).toInt (gsi q_.toNatClampNeg).toInt i.toInt j.toInt n.toInt from by (have k9 : ((-2) : Int32).toInt = -2 := (by decide); have gq1 := hp_gso s_.toNatClampNeg; have gq2 := hp_gso q_.toNatClampNeg; (try rw [← ex_58]); (try rw [← ex_63]); (try rw [← ex_84]); (try rw [← ex_85]); unfold zCopR zH2; (repeat (first | rw [if_pos (by omega)] | rw [if_neg (by omega)])) <;> omega)), (show (((-2) : Int32).toInt = 1 → ∀ m : Nat, gce m = (if 160 * q_.toInt + j.toInt ≤ (m : Int) ∧ (m : Int) < 160 * q_.toInt + j.toInt + n.toInt then gce (160 * s_.toInt + i.toInt + ((m : Int) - (160 * q_.toInt + j.toInt))).toNat else gce m)) from by (have k9 : ((-2) : Int32).toInt = -2 := (by decide); intro h; exfalso; omega)), (show (((-2) : Int32).toInt ≠ 1 → gce = gce) from by (have k9 : ((-2) : Int32).toInt = -2 := (by decide); intro h; exact rfl)), trivial⟩, zRet ht hP hD [5, 6, 0, 1, 2, 3, 4] (by decide) rfl⟩, hS.F ht⟩) hS.2.2 dX8_copy_83
        · exact absurd c_57 (by decide)
set_option maxHeartbeats 4000000 in
set_option maxRecDepth 100000 in
theorem c_F_M_element (l : Launch) (D : va_G) (cI cJ cZ cP cS : ClassId) (po : zPool) (m0 mrf mki mpa mta mla msl mco mhe mso msi msh mce mca mwo mnu mte mwa mke mma mth mtr : Nat) (npu nte nat_ nde nto nse nhu nga nsd nfa nba npl nen nnu nwr nra nik : Int32) (ghe gsi : Nat → Int32) (gce : Nat → Int64) (s_ i : Int32) (hy0 : 0 ≤ npu.toInt) (hy1 : npu.toInt ≤ 8) (hy2 : 4 ≤ nte.toInt) (hy3 : nte.toInt ≤ 40) (hy4 : 0 ≤ nat_.toInt) (hy5 : nat_.toInt ≤ 40) (hy6 : 0 ≤ nde.toInt) (hy7 : nde.toInt ≤ 24) (hy8 : 0 ≤ nhu.toInt) (hy9 : nhu.toInt ≤ 9) (hy10 : 0 ≤ nra.toInt) (hy11 : nra.toInt ≤ 2000) (hy12 : 0 ≤ nik.toInt) (hy13 : nik.toInt ≤ 1) (hp_ghe : zRg ghe (0) 2) (hp_gsi : zRg gsi (0) 160) (hpz : Nat) : Met l yX8_element wsX8_element ({ frames := 1, cells := 0, slots := 0, locals := 21 }) (va_Pc [.ref m0, .int s_, .int i] (zW D (zKT cI cJ cZ cP cS) po [(zMO m0 npu nte nat_ nde nto nse nhu nga nsd nfa mrf mki mpa mta mla msl mco mhe mso msi msh mce mca mwo mnu mte nba npl nen nnu nwr mwa mke mma mth mtr nra nik), (mhe, .inl (cI, 8, .inl ghe)), (msi, .inl (cI, 8, .inl gsi)), (mce, .inl (cJ, 1280, .inr (.inl gce)))] hpz)) (va_Ql (fun (r : Int64) (_ : Unit) => (r = (if (0 ≤ s_.toInt ∧ s_.toInt ≤ 7) ∧ (ghe s_.toNatClampNeg).toInt = 1 ∧ 0 ≤ i.toInt ∧ i.toInt < (gsi s_.toNatClampNeg).toInt then gce (160 * s_.toInt + i.toInt).toNat else 0)) ∧ (True)) (zB D [(zMO m0 npu nte nat_ nde nto nse nhu nga nsd nfa mrf mki mpa mta mla msl mco mhe mso msi msh mce mca mwo mnu mte nba npl nen nnu nwr mwa mke mma mth mtr nra nik), (mhe, .inl (cI, 8, .inl ghe)), (msi, .inl (cI, 8, .inl gsi)), (mce, .inl (cJ, 1280, .inr (.inl gce)))] hpz (fun (_ : Unit) => [(zMO m0 npu nte nat_ nde nto nse nhu nga nsd nfa mrf mki mpa mta mla msl mco mhe mso msi msh mce mca mwo mnu mte nba npl nen nnu nwr mwa mke mma mth mtr nra nik), (mhe, .inl (cI, 8, .inl ghe)), (msi, .inl (cI, 8, .inl gsi)), (mce, .inl (cJ, 1280, .inr (.inl gce)))])) (va_A [(zMO m0 npu nte nat_ nde nto nse nhu nga nsd nfa mrf mki mpa mta mla msl mco mhe mso msi msh mce mca mwo mnu mte nba npl nen nnu nwr mwa mke mma mth mtr nra nik), (mhe, .inl (cI, 8, .inl ghe)), (msi, .inl (cI, 8, .inl gsi)), (mce, .inl (cJ, 1280, .inr (.inl gce)))] hpz)) 0 0 (va_A [(zMO m0 npu nte nat_ nde nto nse nhu nga nsd nfa mrf mki mpa mta mla msl mco mhe mso msi msh mce mca mwo mnu mte nba npl nen nnu nwr mwa mke mma mth mtr nra nik), (mhe, .inl (cI, 8, .inl ghe)), (msi, .inl (cI, 8, .inl gsi)), (mce, .inl (cJ, 1280, .inr (.inl gce)))] hpz) := by
  refine Met.ofW (cc := cX8_element) (maxL := 3) (ret := (some .long)) (by decide) rfl ?_
  intro p e s m args below meth c s₁ B hml hv
  obtain ⟨rfl, hsz, hP, hK, hD0, hN, hZ⟩ := hv
  have hx := B.exec
  have hb := B.bytes
  have hr := B.returns
  have hts := atoms_spec (ws := wsX8_element) B.pre
  have hown : s.vm.findClass RX8 = some m.cls := findClass_of_methodNamed B.named
  have hlocks := B.notSynchronized
  subst hsz
  have hD := hD0.self (sz := s.heap.size)
  have hA := zA_of hD
  have hl := lv_entry ([.ref m0, .int s_, .int i]) (n := 3) (Nat.le_of_ble_eq_true rfl)
  rw [lg_entry_eq]
  generalize (lg_sl ([.ref m0, .int s_, .int i]) ++ List.replicate (3 - (lg_sl ([.ref m0, .int s_, .int i])).length) Slot.unset).toArray = ls at hl ⊢
  replace hl : lv_has ls 3 [(0, .ref m0), (1, .int s_), (2, .int i)] := hl
  refine zw_begin hP hD (fun H locs hP1 hS => ?_)
  clear hP
  have hP := hP1
  clear hP1
  refine lv_aload_n hx hb dX8_element_0 rfl (lv_at hl 0 rfl) ?_
  refine lv_iload_n hx hb dX8_element_1 rfl (lv_at hl 1 rfl) ?_
  refine zc_V (As := [.int s_]) (rest := []) ⟨hx, hb, hml, hown, hts⟩ (c_M_isShelf l D cI cJ cZ cP cS po m0 mrf mki mpa mta mla msl mco mhe mso msi msh mce mca mwo mnu mte mwa mke mma mth mtr (npu) (nte) (nat_) (nde) (nto) (nse) (nhu) (nga) (nsd) (nfa) (nba) (npl) (nen) (nnu) (nwr) (nra) (nik) (s_) hy0 hy1 hy2 hy3 hy4 hy5 hy6 hy7 hy8 hy9 hy10 hy11 hy12 hy13) (cwV 1 hts gX8_element_X8_isShelf rfl rfl rfl ⟨rfl, dh_X8_isShelf⟩ ⟨Nat.le_of_ble_eq_true rfl, Nat.le_of_ble_eq_true rfl⟩) hK hN (hZ.kept hS) hP (hP.sub [0] rfl) (va_recv (q := (RX8, TX8, 38)) hK hP (ci := 8) (q0 := 0) rfl rfl) rfl hl.1 rfl (Nat.le_of_ble_eq_true rfl) dX8_element_2 ⟨Nat.le_of_ble_eq_true rfl, Nat.le_of_ble_eq_true rfl⟩ (fun r_1 hr_1 => ?_)
  rcases hr_1 with ⟨rfl, g_2⟩ | ⟨rfl, g_3, g_4⟩ | ⟨rfl, g_5, g_6⟩
  · refine lv_if_eq (tgt := 47) hx hb dX8_element_5 (by decide) (fun c_7 => ?_) (fun c_7 => ?_)
    · refine lv_lconst (v := 0) hx hb dX8_element_47 (by decide) ?_
      exact W.lret (v := 0) hx hb hr (fun t ht hW => ⟨⟨0, (), rfl, ⟨(show (0 : Int64) = (if (0 ≤ s_.toInt ∧ s_.toInt ≤ 7) ∧ (ghe s_.toNatClampNeg).toInt = 1 ∧ 0 ≤ i.toInt ∧ i.toInt < (gsi s_.toNatClampNeg).toInt then gce (160 * s_.toInt + i.toInt).toNat else 0) from by (rw [if_neg (by omega)])), trivial⟩, zRet ht hP hD [0, 1, 2, 3] (by decide) rfl⟩, hS.F ht⟩) hS.2.2 dX8_element_48
    · exact absurd c_7 (by decide)
  · refine lv_if_eq (tgt := 47) hx hb dX8_element_5 (by decide) (fun c_8 => ?_) (fun c_8 => ?_)
    · refine lv_lconst (v := 0) hx hb dX8_element_47 (by decide) ?_
      exact W.lret (v := 0) hx hb hr (fun t ht hW => ⟨⟨0, (), rfl, ⟨(show (0 : Int64) = (if (0 ≤ s_.toInt ∧ s_.toInt ≤ 7) ∧ (ghe s_.toNatClampNeg).toInt = 1 ∧ 0 ≤ i.toInt ∧ i.toInt < (gsi s_.toNatClampNeg).toInt then gce (160 * s_.toInt + i.toInt).toNat else 0) from by (rw [if_neg (by omega)])), trivial⟩, zRet ht hP hD [0, 1, 2, 3] (by decide) rfl⟩, hS.F ht⟩) hS.2.2 dX8_element_48
    · exact absurd c_8 (by decide)
  · refine lv_if_eq (tgt := 47) hx hb dX8_element_5 (by decide) (fun c_9 => ?_) (fun c_9 => ?_)
    · exact absurd c_9 (by decide)
    · refine lv_aload_n hx hb dX8_element_8 rfl (lv_at hl 0 rfl) ?_
      refine va_get (D := D) (ci := 8) (v := .ref mhe) (C := RX8) (T := TX8) (N := 38) hx hb hts hi_X8_element_8 hown hK hP 0 rfl rfl 17 (by decide) (hts (.fieldLink RX8 47 "TheLiningsInItModel" "held" "[I") (List.mem_of_getElem? (i := 1) rfl)) (fun _ h9 => h9) rfl dX8_element_9 ?_
      refine lv_iload_n hx hb dX8_element_12 rfl (lv_at hl 1 rfl) ?_
      refine va_iald hx hb hK hP 1 0 rfl rfl (zf_in (by omega) (by omega)) dX8_element_13 ?_
      refine lv_topi (fun x_10 ex_10 => ?_)
      have bx_10 : 0 ≤ x_10.toInt ∧ x_10.toInt ≤ 2 := by rw [ex_10]; exact hp_ghe _
      refine lv_iconst (v := 1) hx hb dX8_element_14 (by decide) ?_
      refine lv_icmp_ne (tgt := 47) hx hb dX8_element_15 (by decide) (fun c_11 => ?_) (fun c_11 => ?_)
      · have fc_11 : x_10.toInt ≠ 1 := zf_ne c_11 rfl (by decide)
        refine lv_lconst (v := 0) hx hb dX8_element_47 (by decide) ?_
        exact W.lret (v := 0) hx hb hr (fun t ht hW => ⟨⟨0, (), rfl, ⟨(show (0 : Int64) = (if (0 ≤ s_.toInt ∧ s_.toInt ≤ 7) ∧ (ghe s_.toNatClampNeg).toInt = 1 ∧ 0 ≤ i.toInt ∧ i.toInt < (gsi s_.toNatClampNeg).toInt then gce (160 * s_.toInt + i.toInt).toNat else 0) from by ((try rw [← ex_10]); rw [if_neg (by omega)])), trivial⟩, zRet ht hP hD [0, 1, 2, 3] (by decide) rfl⟩, hS.F ht⟩) hS.2.2 dX8_element_48
      · have fc_11 : x_10.toInt = 1 := zf_eq c_11 rfl (by decide)
        refine lv_iload_n hx hb dX8_element_18 rfl (lv_at hl 2 rfl) ?_
        refine lv_if_lt (tgt := 47) hx hb dX8_element_19 (by decide) (fun c_12 => ?_) (fun c_12 => ?_)
        · have fc_12 : i.toInt < 0 := zf_lt c_12 rfl (by decide)
          refine lv_lconst (v := 0) hx hb dX8_element_47 (by decide) ?_
          exact W.lret (v := 0) hx hb hr (fun t ht hW => ⟨⟨0, (), rfl, ⟨(show (0 : Int64) = (if (0 ≤ s_.toInt ∧ s_.toInt ≤ 7) ∧ (ghe s_.toNatClampNeg).toInt = 1 ∧ 0 ≤ i.toInt ∧ i.toInt < (gsi s_.toNatClampNeg).toInt then gce (160 * s_.toInt + i.toInt).toNat else 0) from by ((try rw [← ex_10]); rw [if_neg (by omega)])), trivial⟩, zRet ht hP hD [0, 1, 2, 3] (by decide) rfl⟩, hS.F ht⟩) hS.2.2 dX8_element_48
        · have fc_12 : 0 ≤ i.toInt := zf_nlt c_12 rfl (by decide)
          refine lv_iload_n hx hb dX8_element_22 rfl (lv_at hl 2 rfl) ?_
          refine lv_aload_n hx hb dX8_element_23 rfl (lv_at hl 0 rfl) ?_
          refine va_get (D := D) (ci := 8) (v := .ref msi) (C := RX8) (T := TX8) (N := 38) hx hb hts hi_X8_element_8 hown hK hP 0 rfl rfl 19 (by decide) (hts (.fieldLink RX8 53 "TheLiningsInItModel" "size" "[I") (List.mem_of_getElem? (i := 2) rfl)) (fun _ h9 => h9) rfl dX8_element_24 ?_
          refine lv_iload_n hx hb dX8_element_27 rfl (lv_at hl 1 rfl) ?_
          refine va_iald hx hb hK hP 2 0 rfl rfl (zf_in (by omega) (by omega)) dX8_element_28 ?_
          refine lv_topi (fun x_13 ex_13 => ?_)
          have bx_13 : 0 ≤ x_13.toInt ∧ x_13.toInt ≤ 160 := by rw [ex_13]; exact hp_gsi _
          refine lv_icmp_ge (tgt := 47) hx hb dX8_element_29 (by decide) (fun c_14 => ?_) (fun c_14 => ?_)
          · have fc_14 : x_13.toInt ≤ i.toInt := zf_le c_14 rfl rfl
            refine lv_lconst (v := 0) hx hb dX8_element_47 (by decide) ?_
            exact W.lret (v := 0) hx hb hr (fun t ht hW => ⟨⟨0, (), rfl, ⟨(show (0 : Int64) = (if (0 ≤ s_.toInt ∧ s_.toInt ≤ 7) ∧ (ghe s_.toNatClampNeg).toInt = 1 ∧ 0 ≤ i.toInt ∧ i.toInt < (gsi s_.toNatClampNeg).toInt then gce (160 * s_.toInt + i.toInt).toNat else 0) from by ((try rw [← ex_10]); (try rw [← ex_13]); rw [if_neg (by omega)])), trivial⟩, zRet ht hP hD [0, 1, 2, 3] (by decide) rfl⟩, hS.F ht⟩) hS.2.2 dX8_element_48
          · have fc_14 : i.toInt < x_13.toInt := zf_nle c_14 rfl rfl
            refine lv_aload_n hx hb dX8_element_32 rfl (lv_at hl 0 rfl) ?_
            refine va_get (D := D) (ci := 8) (v := .ref mce) (C := RX8) (T := TX8) (N := 38) hx hb hts hi_X8_element_8 hown hK hP 0 rfl rfl 21 (by decide) (hts (.fieldLink RX8 59 "TheLiningsInItModel" "cells" "[J") (List.mem_of_getElem? (i := 3) rfl)) (fun _ h9 => h9) rfl dX8_element_33 ?_
            refine lv_sipush (v := 160) hx hb dX8_element_36 (by decide) ?_
            refine lv_iload_n hx hb dX8_element_39 rfl (lv_at hl 1 rfl) ?_
            refine lv_imul hx hb dX8_element_40 ?_
            refine lv_topi (fun x_15 ex_15 => ?_)
            have qx_15 : x_15.toInt = 160 * s_.toInt := by rw [ex_15]; exact zf_mul (by decide) rfl (by omega) (by omega)
            refine lv_iload_n hx hb dX8_element_41 rfl (lv_at hl 2 rfl) ?_
            refine lv_iadd hx hb dX8_element_42 ?_
            refine lv_topi (fun x_16 ex_16 => ?_)
            have qx_16 : x_16.toInt = x_15.toInt + i.toInt := by rw [ex_16]; exact zf_add rfl rfl (by omega) (by omega)
            refine va_lald hx hb hK hP 3 1 rfl rfl (zf_in (by omega) (by omega)) dX8_element_43 ?_
            refine lv_topl (fun x_17 ex_17 => ?_)
            refine lv_goto (tgt := 48) hx hb dX8_element_44 (by decide) ?_
            exact W.lret (v := x_17) hx hb hr (fun t ht hW => ⟨⟨x_17, (), rfl, ⟨(show (x_17 : Int64) = (if (0 ≤ s_.toInt ∧ s_.toInt ≤ 7) ∧ (ghe s_.toNatClampNeg).toInt = 1 ∧ 0 ≤ i.toInt ∧ i.toInt < (gsi s_.toNatClampNeg).toInt then gce (160 * s_.toInt + i.toInt).toNat else 0) from by ((try rw [← ex_10]); (try rw [← ex_13]); rw [if_pos (by omega), ex_17]; congr 1; (show x_16.toInt.toNat = _; congr 1; omega))), trivial⟩, zRet ht hP hD [0, 1, 2, 3] (by decide) rfl⟩, hS.F ht⟩) hS.2.2 dX8_element_48
set_option maxHeartbeats 4000000 in
set_option maxRecDepth 100000 in
theorem c_F_M_show (l : Launch) (D : va_G) (cI cJ cZ cP cS : ClassId) (po : zPool) (m0 mrf mki mpa mta mla msl mco mhe mso msi msh mce mca mwo mnu mte mwa mke mma mth mtr : Nat) (npu nte nat_ nde nto nse nhu nga nsd nfa nba npl nen nnu nwr nra nik : Int32) (grf ghe gsh : Nat → Int32) (s_ p_ : Int32) (hy0 : 0 ≤ npu.toInt) (hy1 : npu.toInt ≤ 8) (hy2 : 4 ≤ nte.toInt) (hy3 : nte.toInt ≤ 40) (hy4 : 0 ≤ nat_.toInt) (hy5 : nat_.toInt ≤ 40) (hy6 : 0 ≤ nde.toInt) (hy7 : nde.toInt ≤ 24) (hy8 : 0 ≤ nhu.toInt) (hy9 : nhu.toInt ≤ 9) (hy10 : 0 ≤ nra.toInt) (hy11 : nra.toInt ≤ 2000) (hy12 : 0 ≤ nik.toInt) (hy13 : nik.toInt ≤ 1) (hHS : zHS ghe gsh) (hp_ghe : zRg ghe (0) 2) (hp_gsh : zRg gsh (-1) 7) (hpz : Nat) : Met l yX8_show wsX8_show ({ frames := 1, cells := 0, slots := 0, locals := 21 }) (va_Pc [.ref m0, .int s_, .int p_] (zW D (zKT cI cJ cZ cP cS) po [(zMO m0 npu nte nat_ nde nto nse nhu nga nsd nfa mrf mki mpa mta mla msl mco mhe mso msi msh mce mca mwo mnu mte nba npl nen nnu nwr mwa mke mma mth mtr nra nik), (mrf, .inl (cI, 8, .inl grf)), (mhe, .inl (cI, 8, .inl ghe)), (msh, .inl (cI, 8, .inl gsh))] hpz)) (va_Qi (fun (r : Int32) (u : (Nat → Int32) × (Nat → Int32) × (Nat → Int32)) => zRg u.2.1 (0) 2 ∧ zRg u.2.2 (-1) 7 ∧ (zHS u.2.1 u.2.2) ∧ ((((s_.toInt < 0 ∨ 7 < s_.toInt) ∨ (p_.toInt ≠ -1 ∧ (p_.toInt < 0 ∨ npu.toInt ≤ p_.toInt))) ∧ r.toInt = -1 ∧ u.2.1 = ghe ∧ u.2.2 = gsh) ∨ ((0 ≤ s_.toInt ∧ s_.toInt ≤ 7) ∧ p_.toInt = -1 ∧ r.toInt = 0 ∧ u.2.1 = upd ghe s_.toNatClampNeg 0 ∧ u.2.2 = upd gsh s_.toNatClampNeg p_) ∨ ((0 ≤ s_.toInt ∧ s_.toInt ≤ 7) ∧ (0 ≤ p_.toInt ∧ p_.toInt < npu.toInt) ∧ r.toInt = 1 ∧ u.2.1 = upd ghe s_.toNatClampNeg 2 ∧ u.2.2 = upd gsh s_.toNatClampNeg p_)) ∧ (True)) (zB D [(zMO m0 npu nte nat_ nde nto nse nhu nga nsd nfa mrf mki mpa mta mla msl mco mhe mso msi msh mce mca mwo mnu mte nba npl nen nnu nwr mwa mke mma mth mtr nra nik), (mrf, .inl (cI, 8, .inl grf)), (mhe, .inl (cI, 8, .inl ghe)), (msh, .inl (cI, 8, .inl gsh))] hpz (fun (u : (Nat → Int32) × (Nat → Int32) × (Nat → Int32)) => [(zMO m0 npu nte nat_ nde nto nse nhu nga nsd nfa mrf mki mpa mta mla msl mco mhe mso msi msh mce mca mwo mnu mte nba npl nen nnu nwr mwa mke mma mth mtr nra nik), (mrf, .inl (cI, 8, .inl u.1)), (mhe, .inl (cI, 8, .inl u.2.1)), (msh, .inl (cI, 8, .inl u.2.2))])) (va_A [(zMO m0 npu nte nat_ nde nto nse nhu nga nsd nfa mrf mki mpa mta mla msl mco mhe mso msi msh mce mca mwo mnu mte nba npl nen nnu nwr mwa mke mma mth mtr nra nik), (mrf, .inl (cI, 8, .inl grf)), (mhe, .inl (cI, 8, .inl ghe)), (msh, .inl (cI, 8, .inl gsh))] hpz)) 0 0 (va_A [(zMO m0 npu nte nat_ nde nto nse nhu nga nsd nfa mrf mki mpa mta mla msl mco mhe mso msi msh mce mca mwo mnu mte nba npl nen nnu nwr mwa mke mma mth mtr nra nik), (mrf, .inl (cI, 8, .inl grf)), (mhe, .inl (cI, 8, .inl ghe)), (msh, .inl (cI, 8, .inl gsh))] hpz) := by
  refine Met.ofW (cc := cX8_show) (maxL := 3) (ret := (some .int)) (by decide) rfl ?_
  intro p e s m args below meth c s₁ B hml hv
  obtain ⟨rfl, hsz, hP, hK, hD0, hN, hZ⟩ := hv
  have hx := B.exec
  have hb := B.bytes
  have hr := B.returns
  have hts := atoms_spec (ws := wsX8_show) B.pre
  have hown : s.vm.findClass RX8 = some m.cls := findClass_of_methodNamed B.named
  have hlocks := B.notSynchronized
  subst hsz
  have hD := hD0.self (sz := s.heap.size)
  have hA := zA_of hD
  have hl := lv_entry ([.ref m0, .int s_, .int p_]) (n := 3) (Nat.le_of_ble_eq_true rfl)
  rw [lg_entry_eq]
  generalize (lg_sl ([.ref m0, .int s_, .int p_]) ++ List.replicate (3 - (lg_sl ([.ref m0, .int s_, .int p_])).length) Slot.unset).toArray = ls at hl ⊢
  replace hl : lv_has ls 3 [(0, .ref m0), (1, .int s_), (2, .int p_)] := hl
  refine zw_begin hP hD (fun H locs hP1 hS => ?_)
  clear hP
  have hP := hP1
  clear hP1
  refine lv_aload_n hx hb dX8_show_0 rfl (lv_at hl 0 rfl) ?_
  refine lv_iload_n hx hb dX8_show_1 rfl (lv_at hl 1 rfl) ?_
  refine zc_V (As := [.int s_]) (rest := []) ⟨hx, hb, hml, hown, hts⟩ (c_M_isShelf l D cI cJ cZ cP cS po m0 mrf mki mpa mta mla msl mco mhe mso msi msh mce mca mwo mnu mte mwa mke mma mth mtr (npu) (nte) (nat_) (nde) (nto) (nse) (nhu) (nga) (nsd) (nfa) (nba) (npl) (nen) (nnu) (nwr) (nra) (nik) (s_) hy0 hy1 hy2 hy3 hy4 hy5 hy6 hy7 hy8 hy9 hy10 hy11 hy12 hy13) (cwV 1 hts gX8_show_X8_isShelf rfl rfl rfl ⟨rfl, dh_X8_isShelf⟩ ⟨Nat.le_of_ble_eq_true rfl, Nat.le_of_ble_eq_true rfl⟩) hK hN (hZ.kept hS) hP (hP.sub [0] rfl) (va_recv (q := (RX8, TX8, 38)) hK hP (ci := 8) (q0 := 0) rfl rfl) rfl hl.1 rfl (Nat.le_of_ble_eq_true rfl) dX8_show_2 ⟨Nat.le_of_ble_eq_true rfl, Nat.le_of_ble_eq_true rfl⟩ (fun r_1 hr_1 => ?_)
  rcases hr_1 with ⟨rfl, g_2⟩ | ⟨rfl, g_3, g_4⟩ | ⟨rfl, g_5, g_6⟩
  · refine lv_if_eq (tgt := 21) hx hb dX8_show_5 (by decide) (fun c_7 => ?_) (fun c_7 => ?_)
    · refine lv_aload_n hx hb dX8_show_21 rfl (lv_at hl 0 rfl) ?_
      refine lv_iconst (v := (-1)) hx hb dX8_show_22 (by decide) ?_
      skip
      refine zw_V (As := [.int (-1)]) (rest := []) (wr := [(mhe, .inl (cI, 8, .inl ghe)), (msh, .inl (cI, 8, .inl gsh))]) ⟨hx, hb, hml, hown, hts⟩ (c_M_no_1 l D cI cJ cZ cP cS po m0 mrf mki mpa mta mla msl mco mhe mso msi msh mce mca mwo mnu mte mwa mke mma mth mtr (npu) (nte) (nat_) (nde) (nto) (nse) (nhu) (nga) (nsd) (nfa) (nba) (npl) (nen) (nnu) (nwr) (nra) (nik) grf hy0 hy1 hy2 hy3 hy4 hy5 hy6 hy7 hy8 hy9 hy10 hy11 hy12 hy13 H.size) (cwV 1 hts gX8_show_X8_no rfl rfl rfl ⟨rfl, dh_X8_no⟩ ⟨Nat.le_of_ble_eq_true rfl, Nat.le_of_ble_eq_true rfl⟩) hK hN (hZ.kept hS) hP hD hS hA [0, 1] [2, 3] rfl rfl (by decide) (by decide) (by decide) (va_recv (q := (RX8, TX8, 38)) hK hP (ci := 8) (q0 := 0) rfl rfl) rfl hl.1 rfl (Nat.le_of_ble_eq_true rfl) dX8_show_23 ⟨Nat.le_of_ble_eq_true rfl, Nat.le_of_ble_eq_true rfl⟩ (fun r_8 u_9 H locs hr_8 hP hD hS => ?_)
      obtain ⟨q_10, rfl⟩ : ∃ z, z = u_9 := ⟨_, rfl⟩
      have h9R := zRe (ws' := [(mhe, .inl (cI, 8, .inl ghe)), (msh, .inl (cI, 8, .inl gsh)), (zMO m0 npu nte nat_ nde nto nse nhu nga nsd nfa mrf mki mpa mta mla msl mco mhe mso msi msh mce mca mwo mnu mte nba npl nen nnu nwr mwa mke mma mth mtr nra nik), (mrf, .inl (cI, 8, .inl q_10))]) hP hD rfl
      clear hP hD
      obtain ⟨hP, hD⟩ := h9R
      obtain rfl := hr_8
      exact W.iret (v := (-1)) hx hb hr (fun t ht hW => ⟨⟨(-1), (q_10, ghe, gsh), rfl, ⟨hp_ghe, hp_gsh, (show zHS ghe gsh from by exact hHS), (show (((s_.toInt < 0 ∨ 7 < s_.toInt) ∨ (p_.toInt ≠ -1 ∧ (p_.toInt < 0 ∨ npu.toInt ≤ p_.toInt))) ∧ ((-1) : Int32).toInt = -1 ∧ ghe = ghe ∧ gsh = gsh) ∨ ((0 ≤ s_.toInt ∧ s_.toInt ≤ 7) ∧ p_.toInt = -1 ∧ ((-1) : Int32).toInt = 0 ∧ ghe = upd ghe s_.toNatClampNeg 0 ∧ gsh = upd gsh s_.toNatClampNeg p_) ∨ ((0 ≤ s_.toInt ∧ s_.toInt ≤ 7) ∧ (0 ≤ p_.toInt ∧ p_.toInt < npu.toInt) ∧ ((-1) : Int32).toInt = 1 ∧ ghe = upd ghe s_.toNatClampNeg 2 ∧ gsh = upd gsh s_.toNatClampNeg p_) from by (have k9 : ((-1) : Int32).toInt = -1 := (by decide); have km : ((-1) : Int32).toInt = -1 := (by decide); first | exact Or.inl ⟨by omega, by omega, rfl, rfl⟩ | exact Or.inr (Or.inl ⟨by omega, by omega, by omega, rfl, rfl⟩) | exact Or.inr (Or.inr ⟨by omega, by omega, by omega, rfl, rfl⟩))), trivial⟩, zRet ht hP hD [2, 3, 0, 1] (by decide) rfl⟩, hS.F ht⟩) hS.2.2 dX8_show_26
    · exact absurd c_7 (by decide)
  · refine lv_if_eq (tgt := 21) hx hb dX8_show_5 (by decide) (fun c_11 => ?_) (fun c_11 => ?_)
    · refine lv_aload_n hx hb dX8_show_21 rfl (lv_at hl 0 rfl) ?_
      refine lv_iconst (v := (-1)) hx hb dX8_show_22 (by decide) ?_
      skip
      refine zw_V (As := [.int (-1)]) (rest := []) (wr := [(mhe, .inl (cI, 8, .inl ghe)), (msh, .inl (cI, 8, .inl gsh))]) ⟨hx, hb, hml, hown, hts⟩ (c_M_no_1 l D cI cJ cZ cP cS po m0 mrf mki mpa mta mla msl mco mhe mso msi msh mce mca mwo mnu mte mwa mke mma mth mtr (npu) (nte) (nat_) (nde) (nto) (nse) (nhu) (nga) (nsd) (nfa) (nba) (npl) (nen) (nnu) (nwr) (nra) (nik) grf hy0 hy1 hy2 hy3 hy4 hy5 hy6 hy7 hy8 hy9 hy10 hy11 hy12 hy13 H.size) (cwV 1 hts gX8_show_X8_no rfl rfl rfl ⟨rfl, dh_X8_no⟩ ⟨Nat.le_of_ble_eq_true rfl, Nat.le_of_ble_eq_true rfl⟩) hK hN (hZ.kept hS) hP hD hS hA [0, 1] [2, 3] rfl rfl (by decide) (by decide) (by decide) (va_recv (q := (RX8, TX8, 38)) hK hP (ci := 8) (q0 := 0) rfl rfl) rfl hl.1 rfl (Nat.le_of_ble_eq_true rfl) dX8_show_23 ⟨Nat.le_of_ble_eq_true rfl, Nat.le_of_ble_eq_true rfl⟩ (fun r_12 u_13 H locs hr_12 hP hD hS => ?_)
      obtain ⟨q_14, rfl⟩ : ∃ z, z = u_13 := ⟨_, rfl⟩
      have h9R := zRe (ws' := [(mhe, .inl (cI, 8, .inl ghe)), (msh, .inl (cI, 8, .inl gsh)), (zMO m0 npu nte nat_ nde nto nse nhu nga nsd nfa mrf mki mpa mta mla msl mco mhe mso msi msh mce mca mwo mnu mte nba npl nen nnu nwr mwa mke mma mth mtr nra nik), (mrf, .inl (cI, 8, .inl q_14))]) hP hD rfl
      clear hP hD
      obtain ⟨hP, hD⟩ := h9R
      obtain rfl := hr_12
      exact W.iret (v := (-1)) hx hb hr (fun t ht hW => ⟨⟨(-1), (q_14, ghe, gsh), rfl, ⟨hp_ghe, hp_gsh, (show zHS ghe gsh from by exact hHS), (show (((s_.toInt < 0 ∨ 7 < s_.toInt) ∨ (p_.toInt ≠ -1 ∧ (p_.toInt < 0 ∨ npu.toInt ≤ p_.toInt))) ∧ ((-1) : Int32).toInt = -1 ∧ ghe = ghe ∧ gsh = gsh) ∨ ((0 ≤ s_.toInt ∧ s_.toInt ≤ 7) ∧ p_.toInt = -1 ∧ ((-1) : Int32).toInt = 0 ∧ ghe = upd ghe s_.toNatClampNeg 0 ∧ gsh = upd gsh s_.toNatClampNeg p_) ∨ ((0 ≤ s_.toInt ∧ s_.toInt ≤ 7) ∧ (0 ≤ p_.toInt ∧ p_.toInt < npu.toInt) ∧ ((-1) : Int32).toInt = 1 ∧ ghe = upd ghe s_.toNatClampNeg 2 ∧ gsh = upd gsh s_.toNatClampNeg p_) from by (have k9 : ((-1) : Int32).toInt = -1 := (by decide); have km : ((-1) : Int32).toInt = -1 := (by decide); first | exact Or.inl ⟨by omega, by omega, rfl, rfl⟩ | exact Or.inr (Or.inl ⟨by omega, by omega, by omega, rfl, rfl⟩) | exact Or.inr (Or.inr ⟨by omega, by omega, by omega, rfl, rfl⟩))), trivial⟩, zRet ht hP hD [2, 3, 0, 1] (by decide) rfl⟩, hS.F ht⟩) hS.2.2 dX8_show_26
    · exact absurd c_11 (by decide)
  · refine lv_if_eq (tgt := 21) hx hb dX8_show_5 (by decide) (fun c_15 => ?_) (fun c_15 => ?_)
    · exact absurd c_15 (by decide)
    · refine lv_iload_n hx hb dX8_show_8 rfl (lv_at hl 2 rfl) ?_
      refine lv_iconst (v := (-1)) hx hb dX8_show_9 (by decide) ?_
      refine lv_icmp_eq (tgt := 27) hx hb dX8_show_10 (by decide) (fun c_16 => ?_) (fun c_16 => ?_)
      · have fc_16 : p_.toInt = (-1) := zf_eq c_16 rfl (by decide)
        refine lv_aload_n hx hb dX8_show_27 rfl (lv_at hl 0 rfl) ?_
        refine va_get (D := D) (ci := 8) (v := .ref mhe) (C := RX8) (T := TX8) (N := 38) hx hb hts hi_X8_show_8 hown hK hP 0 rfl rfl 17 (by decide) (hts (.fieldLink RX8 47 "TheLiningsInItModel" "held" "[I") (List.mem_of_getElem? (i := 1) rfl)) (fun _ h9 => h9) rfl dX8_show_28 ?_
        refine lv_iload_n hx hb dX8_show_31 rfl (lv_at hl 1 rfl) ?_
        refine lv_iload_n hx hb dX8_show_32 rfl (lv_at hl 2 rfl) ?_
        refine lv_iconst (v := (-1)) hx hb dX8_show_33 (by decide) ?_
        refine lv_icmp_ne (tgt := 41) hx hb dX8_show_34 (by decide) (fun c_17 => ?_) (fun c_17 => ?_)
        · exfalso; have fc_17 : p_.toInt ≠ (-1) := zf_ne c_17 rfl (by decide); omega
        · have fc_17 : p_.toInt = (-1) := zf_eq c_17 rfl (by decide)
          refine lv_iconst (v := 0) hx hb dX8_show_37 (by decide) ?_
          refine lv_goto (tgt := 42) hx hb dX8_show_38 (by decide) ?_
          refine va_iast hx hb hK hP hD hS 2 0 rfl rfl (zf_in (by omega) (by omega)) dX8_show_42 (fun H locs hP hD hS => ?_)
          have hpg_18 : zRg (upd ghe s_.toNatClampNeg 0) (0) 2 := zRg_upd hp_ghe (by decide) (by decide)
          obtain ⟨g_18, hg_18⟩ : ∃ g : Nat → Int32, g = upd ghe s_.toNatClampNeg 0 := ⟨_, rfl⟩
          rw [← hg_18] at hP hD hpg_18
          have h9R := zRe (ws' := [(zMO m0 npu nte nat_ nde nto nse nhu nga nsd nfa mrf mki mpa mta mla msl mco mhe mso msi msh mce mca mwo mnu mte nba npl nen nnu nwr mwa mke mma mth mtr nra nik), (mrf, .inl (cI, 8, .inl grf)), (mhe, .inl (cI, 8, .inl g_18)), (msh, .inl (cI, 8, .inl gsh))]) hP hD rfl
          clear hP hD
          obtain ⟨hP, hD⟩ := h9R
          refine lv_aload_n hx hb dX8_show_43 rfl (lv_at hl 0 rfl) ?_
          refine va_get (D := D) (ci := 8) (v := .ref msh) (C := RX8) (T := TX8) (N := 38) hx hb hts hi_X8_show_8 hown hK hP 0 rfl rfl 20 (by decide) (hts (.fieldLink RX8 56 "TheLiningsInItModel" "shown" "[I") (List.mem_of_getElem? (i := 2) rfl)) (fun _ h9 => h9) rfl dX8_show_44 ?_
          refine lv_iload_n hx hb dX8_show_47 rfl (lv_at hl 1 rfl) ?_
          refine lv_iload_n hx hb dX8_show_48 rfl (lv_at hl 2 rfl) ?_
          refine va_iast hx hb hK hP hD hS 3 0 rfl rfl (zf_in (by omega) (by omega)) dX8_show_49 (fun H locs hP hD hS => ?_)
          have hpg_19 : zRg (upd gsh s_.toNatClampNeg p_) (-1) 7 := zRg_upd hp_gsh (by omega) (by omega)
          obtain ⟨g_19, hg_19⟩ : ∃ g : Nat → Int32, g = upd gsh s_.toNatClampNeg p_ := ⟨_, rfl⟩
          rw [← hg_19] at hP hD hpg_19
          have h9R := zRe (ws' := [(zMO m0 npu nte nat_ nde nto nse nhu nga nsd nfa mrf mki mpa mta mla msl mco mhe mso msi msh mce mca mwo mnu mte nba npl nen nnu nwr mwa mke mma mth mtr nra nik), (mrf, .inl (cI, 8, .inl grf)), (mhe, .inl (cI, 8, .inl g_18)), (msh, .inl (cI, 8, .inl g_19))]) hP hD rfl
          clear hP hD
          obtain ⟨hP, hD⟩ := h9R
          have hHS1 : zHS g_18 g_19 := by
            intro j hj
            rw [hg_18] at hj
            rw [hg_19]
            simp only [upd] at hj ⊢
            by_cases e9 : j = s_.toNatClampNeg
            · rw [if_pos e9] at hj ⊢
              first | exact absurd hj (by decide) | exact ⟨by omega, by omega⟩
            · rw [if_neg e9] at hj ⊢
              exact hHS j hj
          refine lv_iload_n hx hb dX8_show_50 rfl (lv_at hl 2 rfl) ?_
          refine lv_iconst (v := (-1)) hx hb dX8_show_51 (by decide) ?_
          refine lv_icmp_ne (tgt := 59) hx hb dX8_show_52 (by decide) (fun c_20 => ?_) (fun c_20 => ?_)
          · exfalso; have fc_20 : p_.toInt ≠ (-1) := zf_ne c_20 rfl (by decide); omega
          · have fc_20 : p_.toInt = (-1) := zf_eq c_20 rfl (by decide)
            refine lv_iconst (v := 0) hx hb dX8_show_55 (by decide) ?_
            refine lv_goto (tgt := 60) hx hb dX8_show_56 (by decide) ?_
            exact W.iret (v := 0) hx hb hr (fun t ht hW => ⟨⟨0, (grf, g_18, g_19), rfl, ⟨hpg_18, hpg_19, (show zHS g_18 g_19 from by exact hHS1), (show (((s_.toInt < 0 ∨ 7 < s_.toInt) ∨ (p_.toInt ≠ -1 ∧ (p_.toInt < 0 ∨ npu.toInt ≤ p_.toInt))) ∧ (0 : Int32).toInt = -1 ∧ g_18 = ghe ∧ g_19 = gsh) ∨ ((0 ≤ s_.toInt ∧ s_.toInt ≤ 7) ∧ p_.toInt = -1 ∧ (0 : Int32).toInt = 0 ∧ g_18 = upd ghe s_.toNatClampNeg 0 ∧ g_19 = upd gsh s_.toNatClampNeg p_) ∨ ((0 ≤ s_.toInt ∧ s_.toInt ≤ 7) ∧ (0 ≤ p_.toInt ∧ p_.toInt < npu.toInt) ∧ (0 : Int32).toInt = 1 ∧ g_18 = upd ghe s_.toNatClampNeg 2 ∧ g_19 = upd gsh s_.toNatClampNeg p_) from by (have k9 : (0 : Int32).toInt = 0 := (by decide); have km : ((-1) : Int32).toInt = -1 := (by decide); first | exact Or.inl ⟨by omega, by omega, hg_18, hg_19⟩ | exact Or.inr (Or.inl ⟨by omega, by omega, by omega, hg_18, hg_19⟩) | exact Or.inr (Or.inr ⟨by omega, by omega, by omega, hg_18, hg_19⟩))), trivial⟩, zRet ht hP hD [0, 1, 2, 3] (by decide) rfl⟩, hS.F ht⟩) hS.2.2 dX8_show_60
      · have fc_16 : p_.toInt ≠ (-1) := zf_ne c_16 rfl (by decide)
        refine lv_aload_n hx hb dX8_show_13 rfl (lv_at hl 0 rfl) ?_
        refine lv_iload_n hx hb dX8_show_14 rfl (lv_at hl 2 rfl) ?_
        refine zc_V (As := [.int p_]) (rest := []) ⟨hx, hb, hml, hown, hts⟩ (c_M_isPull l D cI cJ cZ cP cS po m0 mrf mki mpa mta mla msl mco mhe mso msi msh mce mca mwo mnu mte mwa mke mma mth mtr (npu) (nte) (nat_) (nde) (nto) (nse) (nhu) (nga) (nsd) (nfa) (nba) (npl) (nen) (nnu) (nwr) (nra) (nik) (p_) hy0 hy1 hy2 hy3 hy4 hy5 hy6 hy7 hy8 hy9 hy10 hy11 hy12 hy13) (cwV 1 hts gX8_show_X8_isPull rfl rfl rfl ⟨rfl, dh_X8_isPull⟩ ⟨Nat.le_of_ble_eq_true rfl, Nat.le_of_ble_eq_true rfl⟩) hK hN (hZ.kept hS) hP (hP.sub [0] rfl) (va_recv (q := (RX8, TX8, 38)) hK hP (ci := 8) (q0 := 0) rfl rfl) rfl hl.1 rfl (Nat.le_of_ble_eq_true rfl) dX8_show_15 ⟨Nat.le_of_ble_eq_true rfl, Nat.le_of_ble_eq_true rfl⟩ (fun r_21 hr_21 => ?_)
        rcases hr_21 with ⟨rfl, g_22⟩ | ⟨rfl, g_23, g_24⟩ | ⟨rfl, g_25, g_26⟩
        · refine lv_if_ne (tgt := 27) hx hb dX8_show_18 (by decide) (fun c_27 => ?_) (fun c_27 => ?_)
          · exact absurd c_27 (by decide)
          · refine lv_aload_n hx hb dX8_show_21 rfl (lv_at hl 0 rfl) ?_
            refine lv_iconst (v := (-1)) hx hb dX8_show_22 (by decide) ?_
            skip
            refine zw_V (As := [.int (-1)]) (rest := []) (wr := [(mhe, .inl (cI, 8, .inl ghe)), (msh, .inl (cI, 8, .inl gsh))]) ⟨hx, hb, hml, hown, hts⟩ (c_M_no_1 l D cI cJ cZ cP cS po m0 mrf mki mpa mta mla msl mco mhe mso msi msh mce mca mwo mnu mte mwa mke mma mth mtr (npu) (nte) (nat_) (nde) (nto) (nse) (nhu) (nga) (nsd) (nfa) (nba) (npl) (nen) (nnu) (nwr) (nra) (nik) grf hy0 hy1 hy2 hy3 hy4 hy5 hy6 hy7 hy8 hy9 hy10 hy11 hy12 hy13 H.size) (cwV 1 hts gX8_show_X8_no rfl rfl rfl ⟨rfl, dh_X8_no⟩ ⟨Nat.le_of_ble_eq_true rfl, Nat.le_of_ble_eq_true rfl⟩) hK hN (hZ.kept hS) hP hD hS hA [0, 1] [2, 3] rfl rfl (by decide) (by decide) (by decide) (va_recv (q := (RX8, TX8, 38)) hK hP (ci := 8) (q0 := 0) rfl rfl) rfl hl.1 rfl (Nat.le_of_ble_eq_true rfl) dX8_show_23 ⟨Nat.le_of_ble_eq_true rfl, Nat.le_of_ble_eq_true rfl⟩ (fun r_28 u_29 H locs hr_28 hP hD hS => ?_)
            obtain ⟨q_30, rfl⟩ : ∃ z, z = u_29 := ⟨_, rfl⟩
            have h9R := zRe (ws' := [(mhe, .inl (cI, 8, .inl ghe)), (msh, .inl (cI, 8, .inl gsh)), (zMO m0 npu nte nat_ nde nto nse nhu nga nsd nfa mrf mki mpa mta mla msl mco mhe mso msi msh mce mca mwo mnu mte nba npl nen nnu nwr mwa mke mma mth mtr nra nik), (mrf, .inl (cI, 8, .inl q_30))]) hP hD rfl
            clear hP hD
            obtain ⟨hP, hD⟩ := h9R
            obtain rfl := hr_28
            exact W.iret (v := (-1)) hx hb hr (fun t ht hW => ⟨⟨(-1), (q_30, ghe, gsh), rfl, ⟨hp_ghe, hp_gsh, (show zHS ghe gsh from by exact hHS), (show (((s_.toInt < 0 ∨ 7 < s_.toInt) ∨ (p_.toInt ≠ -1 ∧ (p_.toInt < 0 ∨ npu.toInt ≤ p_.toInt))) ∧ ((-1) : Int32).toInt = -1 ∧ ghe = ghe ∧ gsh = gsh) ∨ ((0 ≤ s_.toInt ∧ s_.toInt ≤ 7) ∧ p_.toInt = -1 ∧ ((-1) : Int32).toInt = 0 ∧ ghe = upd ghe s_.toNatClampNeg 0 ∧ gsh = upd gsh s_.toNatClampNeg p_) ∨ ((0 ≤ s_.toInt ∧ s_.toInt ≤ 7) ∧ (0 ≤ p_.toInt ∧ p_.toInt < npu.toInt) ∧ ((-1) : Int32).toInt = 1 ∧ ghe = upd ghe s_.toNatClampNeg 2 ∧ gsh = upd gsh s_.toNatClampNeg p_) from by (have k9 : ((-1) : Int32).toInt = -1 := (by decide); have km : ((-1) : Int32).toInt = -1 := (by decide); first | exact Or.inl ⟨by omega, by omega, rfl, rfl⟩ | exact Or.inr (Or.inl ⟨by omega, by omega, by omega, rfl, rfl⟩) | exact Or.inr (Or.inr ⟨by omega, by omega, by omega, rfl, rfl⟩))), trivial⟩, zRet ht hP hD [2, 3, 0, 1] (by decide) rfl⟩, hS.F ht⟩) hS.2.2 dX8_show_26
        · refine lv_if_ne (tgt := 27) hx hb dX8_show_18 (by decide) (fun c_31 => ?_) (fun c_31 => ?_)
          · exact absurd c_31 (by decide)
          · refine lv_aload_n hx hb dX8_show_21 rfl (lv_at hl 0 rfl) ?_
            refine lv_iconst (v := (-1)) hx hb dX8_show_22 (by decide) ?_
            skip
            refine zw_V (As := [.int (-1)]) (rest := []) (wr := [(mhe, .inl (cI, 8, .inl ghe)), (msh, .inl (cI, 8, .inl gsh))]) ⟨hx, hb, hml, hown, hts⟩ (c_M_no_1 l D cI cJ cZ cP cS po m0 mrf mki mpa mta mla msl mco mhe mso msi msh mce mca mwo mnu mte mwa mke mma mth mtr (npu) (nte) (nat_) (nde) (nto) (nse) (nhu) (nga) (nsd) (nfa) (nba) (npl) (nen) (nnu) (nwr) (nra) (nik) grf hy0 hy1 hy2 hy3 hy4 hy5 hy6 hy7 hy8 hy9 hy10 hy11 hy12 hy13 H.size) (cwV 1 hts gX8_show_X8_no rfl rfl rfl ⟨rfl, dh_X8_no⟩ ⟨Nat.le_of_ble_eq_true rfl, Nat.le_of_ble_eq_true rfl⟩) hK hN (hZ.kept hS) hP hD hS hA [0, 1] [2, 3] rfl rfl (by decide) (by decide) (by decide) (va_recv (q := (RX8, TX8, 38)) hK hP (ci := 8) (q0 := 0) rfl rfl) rfl hl.1 rfl (Nat.le_of_ble_eq_true rfl) dX8_show_23 ⟨Nat.le_of_ble_eq_true rfl, Nat.le_of_ble_eq_true rfl⟩ (fun r_32 u_33 H locs hr_32 hP hD hS => ?_)
            obtain ⟨q_34, rfl⟩ : ∃ z, z = u_33 := ⟨_, rfl⟩
            have h9R := zRe (ws' := [(mhe, .inl (cI, 8, .inl ghe)), (msh, .inl (cI, 8, .inl gsh)), (zMO m0 npu nte nat_ nde nto nse nhu nga nsd nfa mrf mki mpa mta mla msl mco mhe mso msi msh mce mca mwo mnu mte nba npl nen nnu nwr mwa mke mma mth mtr nra nik), (mrf, .inl (cI, 8, .inl q_34))]) hP hD rfl
            clear hP hD
            obtain ⟨hP, hD⟩ := h9R
            obtain rfl := hr_32
            exact W.iret (v := (-1)) hx hb hr (fun t ht hW => ⟨⟨(-1), (q_34, ghe, gsh), rfl, ⟨hp_ghe, hp_gsh, (show zHS ghe gsh from by exact hHS), (show (((s_.toInt < 0 ∨ 7 < s_.toInt) ∨ (p_.toInt ≠ -1 ∧ (p_.toInt < 0 ∨ npu.toInt ≤ p_.toInt))) ∧ ((-1) : Int32).toInt = -1 ∧ ghe = ghe ∧ gsh = gsh) ∨ ((0 ≤ s_.toInt ∧ s_.toInt ≤ 7) ∧ p_.toInt = -1 ∧ ((-1) : Int32).toInt = 0 ∧ ghe = upd ghe s_.toNatClampNeg 0 ∧ gsh = upd gsh s_.toNatClampNeg p_) ∨ ((0 ≤ s_.toInt ∧ s_.toInt ≤ 7) ∧ (0 ≤ p_.toInt ∧ p_.toInt < npu.toInt) ∧ ((-1) : Int32).toInt = 1 ∧ ghe = upd ghe s_.toNatClampNeg 2 ∧ gsh = upd gsh s_.toNatClampNeg p_) from by (have k9 : ((-1) : Int32).toInt = -1 := (by decide); have km : ((-1) : Int32).toInt = -1 := (by decide); first | exact Or.inl ⟨by omega, by omega, rfl, rfl⟩ | exact Or.inr (Or.inl ⟨by omega, by omega, by omega, rfl, rfl⟩) | exact Or.inr (Or.inr ⟨by omega, by omega, by omega, rfl, rfl⟩))), trivial⟩, zRet ht hP hD [2, 3, 0, 1] (by decide) rfl⟩, hS.F ht⟩) hS.2.2 dX8_show_26
        · refine lv_if_ne (tgt := 27) hx hb dX8_show_18 (by decide) (fun c_35 => ?_) (fun c_35 => ?_)
          · refine lv_aload_n hx hb dX8_show_27 rfl (lv_at hl 0 rfl) ?_
            refine va_get (D := D) (ci := 8) (v := .ref mhe) (C := RX8) (T := TX8) (N := 38) hx hb hts hi_X8_show_8 hown hK hP 0 rfl rfl 17 (by decide) (hts (.fieldLink RX8 47 "TheLiningsInItModel" "held" "[I") (List.mem_of_getElem? (i := 1) rfl)) (fun _ h9 => h9) rfl dX8_show_28 ?_
            refine lv_iload_n hx hb dX8_show_31 rfl (lv_at hl 1 rfl) ?_
            refine lv_iload_n hx hb dX8_show_32 rfl (lv_at hl 2 rfl) ?_
            refine lv_iconst (v := (-1)) hx hb dX8_show_33 (by decide) ?_
            refine lv_icmp_ne (tgt := 41) hx hb dX8_show_34 (by decide) (fun c_36 => ?_) (fun c_36 => ?_)
            · have fc_36 : p_.toInt ≠ (-1) := zf_ne c_36 rfl (by decide)
              refine lv_iconst (v := 2) hx hb dX8_show_41 (by decide) ?_
              refine va_iast hx hb hK hP hD hS 2 0 rfl rfl (zf_in (by omega) (by omega)) dX8_show_42 (fun H locs hP hD hS => ?_)
              have hpg_37 : zRg (upd ghe s_.toNatClampNeg 2) (0) 2 := zRg_upd hp_ghe (by decide) (by decide)
              obtain ⟨g_37, hg_37⟩ : ∃ g : Nat → Int32, g = upd ghe s_.toNatClampNeg 2 := ⟨_, rfl⟩
              rw [← hg_37] at hP hD hpg_37
              have h9R := zRe (ws' := [(zMO m0 npu nte nat_ nde nto nse nhu nga nsd nfa mrf mki mpa mta mla msl mco mhe mso msi msh mce mca mwo mnu mte nba npl nen nnu nwr mwa mke mma mth mtr nra nik), (mrf, .inl (cI, 8, .inl grf)), (mhe, .inl (cI, 8, .inl g_37)), (msh, .inl (cI, 8, .inl gsh))]) hP hD rfl
              clear hP hD
              obtain ⟨hP, hD⟩ := h9R
              refine lv_aload_n hx hb dX8_show_43 rfl (lv_at hl 0 rfl) ?_
              refine va_get (D := D) (ci := 8) (v := .ref msh) (C := RX8) (T := TX8) (N := 38) hx hb hts hi_X8_show_8 hown hK hP 0 rfl rfl 20 (by decide) (hts (.fieldLink RX8 56 "TheLiningsInItModel" "shown" "[I") (List.mem_of_getElem? (i := 2) rfl)) (fun _ h9 => h9) rfl dX8_show_44 ?_
              refine lv_iload_n hx hb dX8_show_47 rfl (lv_at hl 1 rfl) ?_
              refine lv_iload_n hx hb dX8_show_48 rfl (lv_at hl 2 rfl) ?_
              refine va_iast hx hb hK hP hD hS 3 0 rfl rfl (zf_in (by omega) (by omega)) dX8_show_49 (fun H locs hP hD hS => ?_)
              have hpg_38 : zRg (upd gsh s_.toNatClampNeg p_) (-1) 7 := zRg_upd hp_gsh (by omega) (by omega)
              obtain ⟨g_38, hg_38⟩ : ∃ g : Nat → Int32, g = upd gsh s_.toNatClampNeg p_ := ⟨_, rfl⟩
              rw [← hg_38] at hP hD hpg_38
              have h9R := zRe (ws' := [(zMO m0 npu nte nat_ nde nto nse nhu nga nsd nfa mrf mki mpa mta mla msl mco mhe mso msi msh mce mca mwo mnu mte nba npl nen nnu nwr mwa mke mma mth mtr nra nik), (mrf, .inl (cI, 8, .inl grf)), (mhe, .inl (cI, 8, .inl g_37)), (msh, .inl (cI, 8, .inl g_38))]) hP hD rfl
              clear hP hD
              obtain ⟨hP, hD⟩ := h9R
              have hHS1 : zHS g_37 g_38 := by
                intro j hj
                rw [hg_37] at hj
                rw [hg_38]
                simp only [upd] at hj ⊢
                by_cases e9 : j = s_.toNatClampNeg
                · rw [if_pos e9] at hj ⊢
                  first | exact absurd hj (by decide) | exact ⟨by omega, by omega⟩
                · rw [if_neg e9] at hj ⊢
                  exact hHS j hj
              refine lv_iload_n hx hb dX8_show_50 rfl (lv_at hl 2 rfl) ?_
              refine lv_iconst (v := (-1)) hx hb dX8_show_51 (by decide) ?_
              refine lv_icmp_ne (tgt := 59) hx hb dX8_show_52 (by decide) (fun c_39 => ?_) (fun c_39 => ?_)
              · have fc_39 : p_.toInt ≠ (-1) := zf_ne c_39 rfl (by decide)
                refine lv_iconst (v := 1) hx hb dX8_show_59 (by decide) ?_
                exact W.iret (v := 1) hx hb hr (fun t ht hW => ⟨⟨1, (grf, g_37, g_38), rfl, ⟨hpg_37, hpg_38, (show zHS g_37 g_38 from by exact hHS1), (show (((s_.toInt < 0 ∨ 7 < s_.toInt) ∨ (p_.toInt ≠ -1 ∧ (p_.toInt < 0 ∨ npu.toInt ≤ p_.toInt))) ∧ (1 : Int32).toInt = -1 ∧ g_37 = ghe ∧ g_38 = gsh) ∨ ((0 ≤ s_.toInt ∧ s_.toInt ≤ 7) ∧ p_.toInt = -1 ∧ (1 : Int32).toInt = 0 ∧ g_37 = upd ghe s_.toNatClampNeg 0 ∧ g_38 = upd gsh s_.toNatClampNeg p_) ∨ ((0 ≤ s_.toInt ∧ s_.toInt ≤ 7) ∧ (0 ≤ p_.toInt ∧ p_.toInt < npu.toInt) ∧ (1 : Int32).toInt = 1 ∧ g_37 = upd ghe s_.toNatClampNeg 2 ∧ g_38 = upd gsh s_.toNatClampNeg p_) from by (have k9 : (1 : Int32).toInt = 1 := (by decide); have km : ((-1) : Int32).toInt = -1 := (by decide); first | exact Or.inl ⟨by omega, by omega, hg_37, hg_38⟩ | exact Or.inr (Or.inl ⟨by omega, by omega, by omega, hg_37, hg_38⟩) | exact Or.inr (Or.inr ⟨by omega, by omega, by omega, hg_37, hg_38⟩))), trivial⟩, zRet ht hP hD [0, 1, 2, 3] (by decide) rfl⟩, hS.F ht⟩) hS.2.2 dX8_show_60
              · exfalso; have fc_39 : p_.toInt = (-1) := zf_eq c_39 rfl (by decide); omega
            · exfalso; have fc_36 : p_.toInt = (-1) := zf_eq c_36 rfl (by decide); omega
          · exact absurd c_35 (by decide)
set_option maxHeartbeats 4000000 in
set_option maxRecDepth 100000 in
theorem c_F_M_holds (l : Launch) (D : va_G) (cI cJ cZ cP cS : ClassId) (po : zPool) (m0 mrf mki mpa mta mla msl mco mhe mso msi msh mce mca mwo mnu mte mwa mke mma mth mtr : Nat) (npu nte nat_ nde nto nse nhu nga nsd nfa nba npl nen nnu nwr nra nik : Int32) (ghe gso gsh : Nat → Int32) (s_ : Int32) (hy0 : 0 ≤ npu.toInt) (hy1 : npu.toInt ≤ 8) (hy2 : 4 ≤ nte.toInt) (hy3 : nte.toInt ≤ 40) (hy4 : 0 ≤ nat_.toInt) (hy5 : nat_.toInt ≤ 40) (hy6 : 0 ≤ nde.toInt) (hy7 : nde.toInt ≤ 24) (hy8 : 0 ≤ nhu.toInt) (hy9 : nhu.toInt ≤ 9) (hy10 : 0 ≤ nra.toInt) (hy11 : nra.toInt ≤ 2000) (hy12 : 0 ≤ nik.toInt) (hy13 : nik.toInt ≤ 1) (hp_ghe : zRg ghe (0) 2) (hp_gso : zRg gso (0) 3) (hp_gsh : zRg gsh (-1) 7) : Met l yX8_holds wsX8_holds ({ frames := 1, cells := 0, slots := 0, locals := 21 }) (va_Pc [.ref m0, .int s_] (zR D (zKT cI cJ cZ cP cS) po [(zMO m0 npu nte nat_ nde nto nse nhu nga nsd nfa mrf mki mpa mta mla msl mco mhe mso msi msh mce mca mwo mnu mte nba npl nen nnu nwr mwa mke mma mth mtr nra nik), (mhe, .inl (cI, 8, .inl ghe)), (mso, .inl (cI, 8, .inl gso)), (msh, .inl (cI, 8, .inl gsh))])) (vp_Si (fun r => (((s_.toInt < 0 ∨ 7 < s_.toInt) ∧ r.toInt = -1) ∨ ((0 ≤ s_.toInt ∧ s_.toInt ≤ 7) ∧ r.toInt = zHe (ghe s_.toNatClampNeg).toInt (gso s_.toNatClampNeg).toInt (gsh s_.toNatClampNeg).toInt)))) 0 0 (fun _ => False) := by
  refine Met.ofW (cc := cX8_holds) (maxL := 2) (ret := (some .int)) (by decide) rfl ?_
  intro p e s m args below meth c s₁ B hml hv
  obtain ⟨rfl, hP, hK, hN, hZ⟩ := hv
  have hx := B.exec
  have hb := B.bytes
  have hr := B.returns
  have hts := atoms_spec (ws := wsX8_holds) B.pre
  have hown : s.vm.findClass RX8 = some m.cls := findClass_of_methodNamed B.named
  have hlocks := B.notSynchronized
  have hl := lv_entry ([.ref m0, .int s_]) (n := 2) (Nat.le_of_ble_eq_true rfl)
  rw [lg_entry_eq]
  generalize (lg_sl ([.ref m0, .int s_]) ++ List.replicate (2 - (lg_sl ([.ref m0, .int s_])).length) Slot.unset).toArray = ls at hl ⊢
  replace hl : lv_has ls 2 [(0, .ref m0), (1, .int s_)] := hl
  refine lv_aload_n hx hb dX8_holds_0 rfl (lv_at hl 0 rfl) ?_
  refine lv_iload_n hx hb dX8_holds_1 rfl (lv_at hl 1 rfl) ?_
  refine zc_V (As := [.int s_]) (rest := []) ⟨hx, hb, hml, hown, hts⟩ (c_M_isShelf l D cI cJ cZ cP cS po m0 mrf mki mpa mta mla msl mco mhe mso msi msh mce mca mwo mnu mte mwa mke mma mth mtr (npu) (nte) (nat_) (nde) (nto) (nse) (nhu) (nga) (nsd) (nfa) (nba) (npl) (nen) (nnu) (nwr) (nra) (nik) (s_) hy0 hy1 hy2 hy3 hy4 hy5 hy6 hy7 hy8 hy9 hy10 hy11 hy12 hy13) (cwV 1 hts gX8_holds_X8_isShelf rfl rfl rfl ⟨rfl, dh_X8_isShelf⟩ ⟨Nat.le_of_ble_eq_true rfl, Nat.le_of_ble_eq_true rfl⟩) hK hN hZ hP (hP.sub [0] rfl) (va_recv (q := (RX8, TX8, 38)) hK hP (ci := 8) (q0 := 0) rfl rfl) rfl hl.1 rfl (Nat.le_of_ble_eq_true rfl) dX8_holds_2 ⟨Nat.le_of_ble_eq_true rfl, Nat.le_of_ble_eq_true rfl⟩ (fun r_1 hr_1 => ?_)
  rcases hr_1 with ⟨rfl, g_2⟩ | ⟨rfl, g_3, g_4⟩ | ⟨rfl, g_5, g_6⟩
  · refine lv_if_eq (tgt := 17) hx hb dX8_holds_5 (by decide) (fun c_7 => ?_) (fun c_7 => ?_)
    · refine lv_iconst (v := (-1)) hx hb dX8_holds_17 (by decide) ?_
      exact W.iret (v := (-1)) hx hb hr (fun t ht hW => ⟨(-1), rfl, (show ((s_.toInt < 0 ∨ 7 < s_.toInt) ∧ ((-1) : Int32).toInt = -1) ∨ ((0 ≤ s_.toInt ∧ s_.toInt ≤ 7) ∧ ((-1) : Int32).toInt = zHe (ghe s_.toNatClampNeg).toInt (gso s_.toNatClampNeg).toInt (gsh s_.toNatClampNeg).toInt) from by (have k9 : ((-1) : Int32).toInt = -1 := (by decide); unfold zHe; first | (left; omega) | (right; refine ⟨by omega, ?_⟩; (repeat (first | rw [if_pos (by omega)] | rw [if_neg (by omega)])) <;> omega))), ht⟩) (fun q hq => by cases hq) dX8_holds_18
    · exact absurd c_7 (by decide)
  · refine lv_if_eq (tgt := 17) hx hb dX8_holds_5 (by decide) (fun c_8 => ?_) (fun c_8 => ?_)
    · refine lv_iconst (v := (-1)) hx hb dX8_holds_17 (by decide) ?_
      exact W.iret (v := (-1)) hx hb hr (fun t ht hW => ⟨(-1), rfl, (show ((s_.toInt < 0 ∨ 7 < s_.toInt) ∧ ((-1) : Int32).toInt = -1) ∨ ((0 ≤ s_.toInt ∧ s_.toInt ≤ 7) ∧ ((-1) : Int32).toInt = zHe (ghe s_.toNatClampNeg).toInt (gso s_.toNatClampNeg).toInt (gsh s_.toNatClampNeg).toInt) from by (have k9 : ((-1) : Int32).toInt = -1 := (by decide); unfold zHe; first | (left; omega) | (right; refine ⟨by omega, ?_⟩; (repeat (first | rw [if_pos (by omega)] | rw [if_neg (by omega)])) <;> omega))), ht⟩) (fun q hq => by cases hq) dX8_holds_18
    · exact absurd c_8 (by decide)
  · refine lv_if_eq (tgt := 17) hx hb dX8_holds_5 (by decide) (fun c_9 => ?_) (fun c_9 => ?_)
    · exact absurd c_9 (by decide)
    · refine lv_aload_n hx hb dX8_holds_8 rfl (lv_at hl 0 rfl) ?_
      refine va_get (D := D) (ci := 8) (v := .ref mhe) (C := RX8) (T := TX8) (N := 38) hx hb hts hi_X8_holds_8 hown hK hP 0 rfl rfl 17 (by decide) (hts (.fieldLink RX8 47 "TheLiningsInItModel" "held" "[I") (List.mem_of_getElem? (i := 1) rfl)) (fun _ h9 => h9) rfl dX8_holds_9 ?_
      refine lv_iload_n hx hb dX8_holds_12 rfl (lv_at hl 1 rfl) ?_
      refine va_iald hx hb hK hP 1 0 rfl rfl (zf_in (by omega) (by omega)) dX8_holds_13 ?_
      refine lv_topi (fun x_10 ex_10 => ?_)
      have bx_10 : 0 ≤ x_10.toInt ∧ x_10.toInt ≤ 2 := by rw [ex_10]; exact hp_ghe _
      refine lv_if_ne (tgt := 19) hx hb dX8_holds_14 (by decide) (fun c_11 => ?_) (fun c_11 => ?_)
      · have fc_11 : x_10.toInt ≠ 0 := zf_ne c_11 rfl (by decide)
        refine lv_aload_n hx hb dX8_holds_19 rfl (lv_at hl 0 rfl) ?_
        refine va_get (D := D) (ci := 8) (v := .ref mhe) (C := RX8) (T := TX8) (N := 38) hx hb hts hi_X8_holds_8 hown hK hP 0 rfl rfl 17 (by decide) (hts (.fieldLink RX8 47 "TheLiningsInItModel" "held" "[I") (List.mem_of_getElem? (i := 1) rfl)) (fun _ h9 => h9) rfl dX8_holds_20 ?_
        refine lv_iload_n hx hb dX8_holds_23 rfl (lv_at hl 1 rfl) ?_
        refine va_iald hx hb hK hP 1 0 rfl rfl (zf_in (by omega) (by omega)) dX8_holds_24 ?_
        refine lv_topi (fun y_12 ey_12 => ?_)
        obtain rfl : x_10 = y_12 := ex_10.trans ey_12.symm
        refine lv_iconst (v := 1) hx hb dX8_holds_25 (by decide) ?_
        refine lv_icmp_ne (tgt := 41) hx hb dX8_holds_26 (by decide) (fun c_13 => ?_) (fun c_13 => ?_)
        · have fc_13 : x_10.toInt ≠ 1 := zf_ne c_13 rfl (by decide)
          refine lv_aload_n hx hb dX8_holds_41 rfl (lv_at hl 0 rfl) ?_
          refine va_get (D := D) (ci := 8) (v := .ref msh) (C := RX8) (T := TX8) (N := 38) hx hb hts hi_X8_holds_8 hown hK hP 0 rfl rfl 20 (by decide) (hts (.fieldLink RX8 56 "TheLiningsInItModel" "shown" "[I") (List.mem_of_getElem? (i := 3) rfl)) (fun _ h9 => h9) rfl dX8_holds_42 ?_
          refine lv_iload_n hx hb dX8_holds_45 rfl (lv_at hl 1 rfl) ?_
          refine va_iald hx hb hK hP 3 0 rfl rfl (zf_in (by omega) (by omega)) dX8_holds_46 ?_
          refine lv_topi (fun x_14 ex_14 => ?_)
          have bx_14 : -1 ≤ x_14.toInt ∧ x_14.toInt ≤ 7 := by rw [ex_14]; exact hp_gsh _
          exact W.iret (v := x_14) hx hb hr (fun t ht hW => ⟨x_14, rfl, (show ((s_.toInt < 0 ∨ 7 < s_.toInt) ∧ (x_14 : Int32).toInt = -1) ∨ ((0 ≤ s_.toInt ∧ s_.toInt ≤ 7) ∧ (x_14 : Int32).toInt = zHe (ghe s_.toNatClampNeg).toInt (gso s_.toNatClampNeg).toInt (gsh s_.toNatClampNeg).toInt) from by ((try rw [← ex_10]); (try rw [← ex_14]); unfold zHe; first | (left; omega) | (right; refine ⟨by omega, ?_⟩; (repeat (first | rw [if_pos (by omega)] | rw [if_neg (by omega)])) <;> omega))), ht⟩) (fun q hq => by cases hq) dX8_holds_47
        · have fc_13 : x_10.toInt = 1 := zf_eq c_13 rfl (by decide)
          refine lv_bipush (v := 100) hx hb dX8_holds_29 (by decide) ?_
          refine lv_aload_n hx hb dX8_holds_31 rfl (lv_at hl 0 rfl) ?_
          refine va_get (D := D) (ci := 8) (v := .ref mso) (C := RX8) (T := TX8) (N := 38) hx hb hts hi_X8_holds_8 hown hK hP 0 rfl rfl 18 (by decide) (hts (.fieldLink RX8 50 "TheLiningsInItModel" "sort" "[I") (List.mem_of_getElem? (i := 2) rfl)) (fun _ h9 => h9) rfl dX8_holds_32 ?_
          refine lv_iload_n hx hb dX8_holds_35 rfl (lv_at hl 1 rfl) ?_
          refine va_iald hx hb hK hP 2 0 rfl rfl (zf_in (by omega) (by omega)) dX8_holds_36 ?_
          refine lv_topi (fun x_15 ex_15 => ?_)
          have bx_15 : 0 ≤ x_15.toInt ∧ x_15.toInt ≤ 3 := by rw [ex_15]; exact hp_gso _
          refine lv_iadd hx hb dX8_holds_37 ?_
          refine lv_topi (fun x_16 ex_16 => ?_)
          have qx_16 : x_16.toInt = 100 + x_15.toInt := by rw [ex_16]; exact zf_add (by decide) rfl (by omega) (by omega)
          refine lv_goto (tgt := 47) hx hb dX8_holds_38 (by decide) ?_
          exact W.iret (v := x_16) hx hb hr (fun t ht hW => ⟨x_16, rfl, (show ((s_.toInt < 0 ∨ 7 < s_.toInt) ∧ (x_16 : Int32).toInt = -1) ∨ ((0 ≤ s_.toInt ∧ s_.toInt ≤ 7) ∧ (x_16 : Int32).toInt = zHe (ghe s_.toNatClampNeg).toInt (gso s_.toNatClampNeg).toInt (gsh s_.toNatClampNeg).toInt) from by ((try rw [← ex_10]); (try rw [← ex_15]); unfold zHe; first | (left; omega) | (right; refine ⟨by omega, ?_⟩; (repeat (first | rw [if_pos (by omega)] | rw [if_neg (by omega)])) <;> omega))), ht⟩) (fun q hq => by cases hq) dX8_holds_47
      · have fc_11 : x_10.toInt = 0 := zf_eq c_11 rfl (by decide)
        refine lv_iconst (v := (-1)) hx hb dX8_holds_17 (by decide) ?_
        exact W.iret (v := (-1)) hx hb hr (fun t ht hW => ⟨(-1), rfl, (show ((s_.toInt < 0 ∨ 7 < s_.toInt) ∧ ((-1) : Int32).toInt = -1) ∨ ((0 ≤ s_.toInt ∧ s_.toInt ≤ 7) ∧ ((-1) : Int32).toInt = zHe (ghe s_.toNatClampNeg).toInt (gso s_.toNatClampNeg).toInt (gsh s_.toNatClampNeg).toInt) from by (have k9 : ((-1) : Int32).toInt = -1 := (by decide); (try rw [← ex_10]); unfold zHe; first | (left; omega) | (right; refine ⟨by omega, ?_⟩; (repeat (first | rw [if_pos (by omega)] | rw [if_neg (by omega)])) <;> omega))), ht⟩) (fun q hq => by cases hq) dX8_holds_18
set_option maxHeartbeats 4000000 in
set_option maxRecDepth 100000 in
theorem c_F_M_pull (l : Launch) (D : va_G) (cI cJ cZ cP cS : ClassId) (po : zPool) (m0 mrf mki mpa mta mla msl mco mhe mso msi msh mce mca mwo mnu mte mwa mke mma mth mtr : Nat) (npu nte nat_ nde nto nse nhu nga nsd nfa nba npl nen nnu nwr nra nik : Int32) (grf gki gpa gta : Nat → Int32) (ki a_ ta : Int32) (hy0 : 0 ≤ npu.toInt) (hy1 : npu.toInt ≤ 8) (hy2 : 4 ≤ nte.toInt) (hy3 : nte.toInt ≤ 40) (hy4 : 0 ≤ nat_.toInt) (hy5 : nat_.toInt ≤ 40) (hy6 : 0 ≤ nde.toInt) (hy7 : nde.toInt ≤ 24) (hy8 : 0 ≤ nhu.toInt) (hy9 : nhu.toInt ≤ 9) (hy10 : 0 ≤ nra.toInt) (hy11 : nra.toInt ≤ 2000) (hy12 : 0 ≤ nik.toInt) (hy13 : nik.toInt ≤ 1) (hp_gki : zRg gki (0) 6) (hp_gpa : zRg gpa (0) 9) (hp_gta : zRg gta (0) 60) (hpz : Nat) : Met l yX8_pull wsX8_pull ({ frames := 1, cells := 0, slots := 0, locals := 23 }) (va_Pc [.ref m0, .int ki, .int a_, .int ta] (zW D (zKT cI cJ cZ cP cS) po [(zMO m0 npu nte nat_ nde nto nse nhu nga nsd nfa mrf mki mpa mta mla msl mco mhe mso msi msh mce mca mwo mnu mte nba npl nen nnu nwr mwa mke mma mth mtr nra nik), (mrf, .inl (cI, 8, .inl grf)), (mki, .inl (cI, 8, .inl gki)), (mpa, .inl (cI, 8, .inl gpa)), (mta, .inl (cI, 8, .inl gta))] hpz)) (va_Qi (fun (r : Int32) (u : (Int32) × (Nat → Int32) × (Nat → Int32) × (Nat → Int32) × (Nat → Int32)) => (0 ≤ u.1.toInt ∧ u.1.toInt ≤ 8) ∧ zRg u.2.2.1 (0) 6 ∧ zRg u.2.2.2.1 (0) 9 ∧ zRg u.2.2.2.2 (0) 60 ∧ (r.toInt = zPulR ki.toInt a_.toInt ta.toInt npu.toInt) ∧ ((0 ≤ r.toInt → u.1.toInt = npu.toInt + 1) ∧ (r.toInt < 0 → u.1.toInt = npu.toInt)) ∧ ((r.toInt < 0 ∧ u.2.2.1 = gki ∧ u.2.2.2.1 = gpa ∧ u.2.2.2.2 = gta) ∨ (0 ≤ r.toInt ∧ u.2.2.1 = upd gki npu.toNatClampNeg ki ∧ u.2.2.2.1 = upd gpa npu.toNatClampNeg a_ ∧ u.2.2.2.2 = upd gta npu.toNatClampNeg ta)) ∧ (True)) (zB D [(zMO m0 npu nte nat_ nde nto nse nhu nga nsd nfa mrf mki mpa mta mla msl mco mhe mso msi msh mce mca mwo mnu mte nba npl nen nnu nwr mwa mke mma mth mtr nra nik), (mrf, .inl (cI, 8, .inl grf)), (mki, .inl (cI, 8, .inl gki)), (mpa, .inl (cI, 8, .inl gpa)), (mta, .inl (cI, 8, .inl gta))] hpz (fun (u : (Int32) × (Nat → Int32) × (Nat → Int32) × (Nat → Int32) × (Nat → Int32)) => [(zMO m0 u.1 nte nat_ nde nto nse nhu nga nsd nfa mrf mki mpa mta mla msl mco mhe mso msi msh mce mca mwo mnu mte nba npl nen nnu nwr mwa mke mma mth mtr nra nik), (mrf, .inl (cI, 8, .inl u.2.1)), (mki, .inl (cI, 8, .inl u.2.2.1)), (mpa, .inl (cI, 8, .inl u.2.2.2.1)), (mta, .inl (cI, 8, .inl u.2.2.2.2))])) (va_A [(zMO m0 npu nte nat_ nde nto nse nhu nga nsd nfa mrf mki mpa mta mla msl mco mhe mso msi msh mce mca mwo mnu mte nba npl nen nnu nwr mwa mke mma mth mtr nra nik), (mrf, .inl (cI, 8, .inl grf)), (mki, .inl (cI, 8, .inl gki)), (mpa, .inl (cI, 8, .inl gpa)), (mta, .inl (cI, 8, .inl gta))] hpz)) 0 0 (va_A [(zMO m0 npu nte nat_ nde nto nse nhu nga nsd nfa mrf mki mpa mta mla msl mco mhe mso msi msh mce mca mwo mnu mte nba npl nen nnu nwr mwa mke mma mth mtr nra nik), (mrf, .inl (cI, 8, .inl grf)), (mki, .inl (cI, 8, .inl gki)), (mpa, .inl (cI, 8, .inl gpa)), (mta, .inl (cI, 8, .inl gta))] hpz) := by
  refine Met.ofW (cc := cX8_pull) (maxL := 4) (ret := (some .int)) (by decide) rfl ?_
  intro p e s m args below meth c s₁ B hml hv
  obtain ⟨rfl, hsz, hP, hK, hD0, hN, hZ⟩ := hv
  have hx := B.exec
  have hb := B.bytes
  have hr := B.returns
  have hts := atoms_spec (ws := wsX8_pull) B.pre
  have hown : s.vm.findClass RX8 = some m.cls := findClass_of_methodNamed B.named
  have hlocks := B.notSynchronized
  subst hsz
  have hD := hD0.self (sz := s.heap.size)
  have hA := zA_of hD
  have hl := lv_entry ([.ref m0, .int ki, .int a_, .int ta]) (n := 4) (Nat.le_of_ble_eq_true rfl)
  rw [lg_entry_eq]
  generalize (lg_sl ([.ref m0, .int ki, .int a_, .int ta]) ++ List.replicate (4 - (lg_sl ([.ref m0, .int ki, .int a_, .int ta])).length) Slot.unset).toArray = ls at hl ⊢
  replace hl : lv_has ls 4 [(0, .ref m0), (1, .int ki), (2, .int a_), (3, .int ta)] := hl
  refine zw_begin hP hD (fun H locs hP1 hS => ?_)
  clear hP
  have hP := hP1
  clear hP1
  refine lv_iload_n hx hb dX8_pull_0 rfl (lv_at hl 1 rfl) ?_
  refine lv_if_lt (tgt := 10) hx hb dX8_pull_1 (by decide) (fun c_1 => ?_) (fun c_1 => ?_)
  · have fc_1 : ki.toInt < 0 := zf_lt c_1 rfl (by decide)
    refine lv_aload_n hx hb dX8_pull_10 rfl (lv_at hl 0 rfl) ?_
    refine lv_iconst (v := (-1)) hx hb dX8_pull_11 (by decide) ?_
    skip
    refine zw_V (As := [.int (-1)]) (rest := []) (wr := [(mki, .inl (cI, 8, .inl gki)), (mpa, .inl (cI, 8, .inl gpa)), (mta, .inl (cI, 8, .inl gta))]) ⟨hx, hb, hml, hown, hts⟩ (c_M_no_1 l D cI cJ cZ cP cS po m0 mrf mki mpa mta mla msl mco mhe mso msi msh mce mca mwo mnu mte mwa mke mma mth mtr (npu) (nte) (nat_) (nde) (nto) (nse) (nhu) (nga) (nsd) (nfa) (nba) (npl) (nen) (nnu) (nwr) (nra) (nik) grf hy0 hy1 hy2 hy3 hy4 hy5 hy6 hy7 hy8 hy9 hy10 hy11 hy12 hy13 H.size) (cwV 1 hts gX8_pull_X8_no rfl rfl rfl ⟨rfl, dh_X8_no⟩ ⟨Nat.le_of_ble_eq_true rfl, Nat.le_of_ble_eq_true rfl⟩) hK hN (hZ.kept hS) hP hD hS hA [0, 1] [2, 3, 4] rfl rfl (by decide) (by decide) (by decide) (va_recv (q := (RX8, TX8, 38)) hK hP (ci := 8) (q0 := 0) rfl rfl) rfl hl.1 rfl (Nat.le_of_ble_eq_true rfl) dX8_pull_12 ⟨Nat.le_of_ble_eq_true rfl, Nat.le_of_ble_eq_true rfl⟩ (fun r_2 u_3 H locs hr_2 hP hD hS => ?_)
    obtain ⟨q_4, rfl⟩ : ∃ z, z = u_3 := ⟨_, rfl⟩
    have h9R := zRe (ws' := [(mki, .inl (cI, 8, .inl gki)), (mpa, .inl (cI, 8, .inl gpa)), (mta, .inl (cI, 8, .inl gta)), (zMO m0 npu nte nat_ nde nto nse nhu nga nsd nfa mrf mki mpa mta mla msl mco mhe mso msi msh mce mca mwo mnu mte nba npl nen nnu nwr mwa mke mma mth mtr nra nik), (mrf, .inl (cI, 8, .inl q_4))]) hP hD rfl
    clear hP hD
    obtain ⟨hP, hD⟩ := h9R
    obtain rfl := hr_2
    exact W.iret (v := (-1)) hx hb hr (fun t ht hW => ⟨⟨(-1), (npu, q_4, gki, gpa, gta), rfl, ⟨(show 0 ≤ npu.toInt ∧ npu.toInt ≤ 8 from ⟨hy0, hy1⟩), hp_gki, hp_gpa, hp_gta, (show ((-1) : Int32).toInt = zPulR ki.toInt a_.toInt ta.toInt npu.toInt from by (have k9 : ((-1) : Int32).toInt = -1 := (by decide); unfold zPulR; (repeat (first | rw [if_pos (by omega)] | rw [if_neg (by omega)])) <;> omega)), (show (0 ≤ ((-1) : Int32).toInt → npu.toInt = npu.toInt + 1) ∧ (((-1) : Int32).toInt < 0 → npu.toInt = npu.toInt) from by (have k9 : ((-1) : Int32).toInt = -1 := (by decide); omega)), (show (((-1) : Int32).toInt < 0 ∧ gki = gki ∧ gpa = gpa ∧ gta = gta) ∨ (0 ≤ ((-1) : Int32).toInt ∧ gki = upd gki npu.toNatClampNeg ki ∧ gpa = upd gpa npu.toNatClampNeg a_ ∧ gta = upd gta npu.toNatClampNeg ta) from by (have k9 : ((-1) : Int32).toInt = -1 := (by decide); exact Or.inl ⟨by omega, rfl, rfl, rfl⟩)), trivial⟩, zRet ht hP hD [3, 4, 0, 1, 2] (by decide) rfl⟩, hS.F ht⟩) hS.2.2 dX8_pull_15
  · have fc_1 : 0 ≤ ki.toInt := zf_nlt c_1 rfl (by decide)
    refine lv_iload_n hx hb dX8_pull_4 rfl (lv_at hl 1 rfl) ?_
    refine lv_bipush (v := 6) hx hb dX8_pull_5 (by decide) ?_
    refine lv_icmp_le (tgt := 16) hx hb dX8_pull_7 (by decide) (fun c_5 => ?_) (fun c_5 => ?_)
    · have fc_5 : ki.toInt ≤ 6 := zf_le c_5 rfl (by decide)
      refine lv_iload_n hx hb dX8_pull_16 rfl (lv_at hl 2 rfl) ?_
      refine lv_if_lt (tgt := 37) hx hb dX8_pull_17 (by decide) (fun c_6 => ?_) (fun c_6 => ?_)
      · have fc_6 : a_.toInt < 0 := zf_lt c_6 rfl (by decide)
        refine lv_aload_n hx hb dX8_pull_37 rfl (lv_at hl 0 rfl) ?_
        refine lv_bipush (v := (-6)) hx hb dX8_pull_38 (by decide) ?_
        skip
        refine zw_V (As := [.int (-6)]) (rest := []) (wr := [(mki, .inl (cI, 8, .inl gki)), (mpa, .inl (cI, 8, .inl gpa)), (mta, .inl (cI, 8, .inl gta))]) ⟨hx, hb, hml, hown, hts⟩ (c_M_no_6 l D cI cJ cZ cP cS po m0 mrf mki mpa mta mla msl mco mhe mso msi msh mce mca mwo mnu mte mwa mke mma mth mtr (npu) (nte) (nat_) (nde) (nto) (nse) (nhu) (nga) (nsd) (nfa) (nba) (npl) (nen) (nnu) (nwr) (nra) (nik) grf hy0 hy1 hy2 hy3 hy4 hy5 hy6 hy7 hy8 hy9 hy10 hy11 hy12 hy13 H.size) (cwV 1 hts gX8_pull_X8_no rfl rfl rfl ⟨rfl, dh_X8_no⟩ ⟨Nat.le_of_ble_eq_true rfl, Nat.le_of_ble_eq_true rfl⟩) hK hN (hZ.kept hS) hP hD hS hA [0, 1] [2, 3, 4] rfl rfl (by decide) (by decide) (by decide) (va_recv (q := (RX8, TX8, 38)) hK hP (ci := 8) (q0 := 0) rfl rfl) rfl hl.1 rfl (Nat.le_of_ble_eq_true rfl) dX8_pull_40 ⟨Nat.le_of_ble_eq_true rfl, Nat.le_of_ble_eq_true rfl⟩ (fun r_7 u_8 H locs hr_7 hP hD hS => ?_)
        obtain ⟨q_9, rfl⟩ : ∃ z, z = u_8 := ⟨_, rfl⟩
        have h9R := zRe (ws' := [(mki, .inl (cI, 8, .inl gki)), (mpa, .inl (cI, 8, .inl gpa)), (mta, .inl (cI, 8, .inl gta)), (zMO m0 npu nte nat_ nde nto nse nhu nga nsd nfa mrf mki mpa mta mla msl mco mhe mso msi msh mce mca mwo mnu mte nba npl nen nnu nwr mwa mke mma mth mtr nra nik), (mrf, .inl (cI, 8, .inl q_9))]) hP hD rfl
        clear hP hD
        obtain ⟨hP, hD⟩ := h9R
        obtain rfl := hr_7
        exact W.iret (v := (-6)) hx hb hr (fun t ht hW => ⟨⟨(-6), (npu, q_9, gki, gpa, gta), rfl, ⟨(show 0 ≤ npu.toInt ∧ npu.toInt ≤ 8 from ⟨hy0, hy1⟩), hp_gki, hp_gpa, hp_gta, (show ((-6) : Int32).toInt = zPulR ki.toInt a_.toInt ta.toInt npu.toInt from by (have k9 : ((-6) : Int32).toInt = -6 := (by decide); unfold zPulR; (repeat (first | rw [if_pos (by omega)] | rw [if_neg (by omega)])) <;> omega)), (show (0 ≤ ((-6) : Int32).toInt → npu.toInt = npu.toInt + 1) ∧ (((-6) : Int32).toInt < 0 → npu.toInt = npu.toInt) from by (have k9 : ((-6) : Int32).toInt = -6 := (by decide); omega)), (show (((-6) : Int32).toInt < 0 ∧ gki = gki ∧ gpa = gpa ∧ gta = gta) ∨ (0 ≤ ((-6) : Int32).toInt ∧ gki = upd gki npu.toNatClampNeg ki ∧ gpa = upd gpa npu.toNatClampNeg a_ ∧ gta = upd gta npu.toNatClampNeg ta) from by (have k9 : ((-6) : Int32).toInt = -6 := (by decide); exact Or.inl ⟨by omega, rfl, rfl, rfl⟩)), trivial⟩, zRet ht hP hD [3, 4, 0, 1, 2] (by decide) rfl⟩, hS.F ht⟩) hS.2.2 dX8_pull_43
      · have fc_6 : 0 ≤ a_.toInt := zf_nlt c_6 rfl (by decide)
        refine lv_iload_n hx hb dX8_pull_20 rfl (lv_at hl 2 rfl) ?_
        refine lv_bipush (v := 9) hx hb dX8_pull_21 (by decide) ?_
        refine lv_icmp_gt (tgt := 37) hx hb dX8_pull_23 (by decide) (fun c_10 => ?_) (fun c_10 => ?_)
        · have fc_10 : 9 < a_.toInt := zf_lt c_10 (by decide) rfl
          refine lv_aload_n hx hb dX8_pull_37 rfl (lv_at hl 0 rfl) ?_
          refine lv_bipush (v := (-6)) hx hb dX8_pull_38 (by decide) ?_
          skip
          refine zw_V (As := [.int (-6)]) (rest := []) (wr := [(mki, .inl (cI, 8, .inl gki)), (mpa, .inl (cI, 8, .inl gpa)), (mta, .inl (cI, 8, .inl gta))]) ⟨hx, hb, hml, hown, hts⟩ (c_M_no_6 l D cI cJ cZ cP cS po m0 mrf mki mpa mta mla msl mco mhe mso msi msh mce mca mwo mnu mte mwa mke mma mth mtr (npu) (nte) (nat_) (nde) (nto) (nse) (nhu) (nga) (nsd) (nfa) (nba) (npl) (nen) (nnu) (nwr) (nra) (nik) grf hy0 hy1 hy2 hy3 hy4 hy5 hy6 hy7 hy8 hy9 hy10 hy11 hy12 hy13 H.size) (cwV 1 hts gX8_pull_X8_no rfl rfl rfl ⟨rfl, dh_X8_no⟩ ⟨Nat.le_of_ble_eq_true rfl, Nat.le_of_ble_eq_true rfl⟩) hK hN (hZ.kept hS) hP hD hS hA [0, 1] [2, 3, 4] rfl rfl (by decide) (by decide) (by decide) (va_recv (q := (RX8, TX8, 38)) hK hP (ci := 8) (q0 := 0) rfl rfl) rfl hl.1 rfl (Nat.le_of_ble_eq_true rfl) dX8_pull_40 ⟨Nat.le_of_ble_eq_true rfl, Nat.le_of_ble_eq_true rfl⟩ (fun r_11 u_12 H locs hr_11 hP hD hS => ?_)
          obtain ⟨q_13, rfl⟩ : ∃ z, z = u_12 := ⟨_, rfl⟩
          have h9R := zRe (ws' := [(mki, .inl (cI, 8, .inl gki)), (mpa, .inl (cI, 8, .inl gpa)), (mta, .inl (cI, 8, .inl gta)), (zMO m0 npu nte nat_ nde nto nse nhu nga nsd nfa mrf mki mpa mta mla msl mco mhe mso msi msh mce mca mwo mnu mte nba npl nen nnu nwr mwa mke mma mth mtr nra nik), (mrf, .inl (cI, 8, .inl q_13))]) hP hD rfl
          clear hP hD
          obtain ⟨hP, hD⟩ := h9R
          obtain rfl := hr_11
          exact W.iret (v := (-6)) hx hb hr (fun t ht hW => ⟨⟨(-6), (npu, q_13, gki, gpa, gta), rfl, ⟨(show 0 ≤ npu.toInt ∧ npu.toInt ≤ 8 from ⟨hy0, hy1⟩), hp_gki, hp_gpa, hp_gta, (show ((-6) : Int32).toInt = zPulR ki.toInt a_.toInt ta.toInt npu.toInt from by (have k9 : ((-6) : Int32).toInt = -6 := (by decide); unfold zPulR; (repeat (first | rw [if_pos (by omega)] | rw [if_neg (by omega)])) <;> omega)), (show (0 ≤ ((-6) : Int32).toInt → npu.toInt = npu.toInt + 1) ∧ (((-6) : Int32).toInt < 0 → npu.toInt = npu.toInt) from by (have k9 : ((-6) : Int32).toInt = -6 := (by decide); omega)), (show (((-6) : Int32).toInt < 0 ∧ gki = gki ∧ gpa = gpa ∧ gta = gta) ∨ (0 ≤ ((-6) : Int32).toInt ∧ gki = upd gki npu.toNatClampNeg ki ∧ gpa = upd gpa npu.toNatClampNeg a_ ∧ gta = upd gta npu.toNatClampNeg ta) from by (have k9 : ((-6) : Int32).toInt = -6 := (by decide); exact Or.inl ⟨by omega, rfl, rfl, rfl⟩)), trivial⟩, zRet ht hP hD [3, 4, 0, 1, 2] (by decide) rfl⟩, hS.F ht⟩) hS.2.2 dX8_pull_43
        · have fc_10 : a_.toInt ≤ 9 := zf_nlt c_10 (by decide) rfl
          refine lv_iload_n hx hb dX8_pull_26 rfl (lv_at hl 3 rfl) ?_
          refine lv_iconst (v := 1) hx hb dX8_pull_27 (by decide) ?_
          refine lv_icmp_lt (tgt := 37) hx hb dX8_pull_28 (by decide) (fun c_14 => ?_) (fun c_14 => ?_)
          · have fc_14 : ta.toInt < 1 := zf_lt c_14 rfl (by decide)
            refine lv_aload_n hx hb dX8_pull_37 rfl (lv_at hl 0 rfl) ?_
            refine lv_bipush (v := (-6)) hx hb dX8_pull_38 (by decide) ?_
            skip
            refine zw_V (As := [.int (-6)]) (rest := []) (wr := [(mki, .inl (cI, 8, .inl gki)), (mpa, .inl (cI, 8, .inl gpa)), (mta, .inl (cI, 8, .inl gta))]) ⟨hx, hb, hml, hown, hts⟩ (c_M_no_6 l D cI cJ cZ cP cS po m0 mrf mki mpa mta mla msl mco mhe mso msi msh mce mca mwo mnu mte mwa mke mma mth mtr (npu) (nte) (nat_) (nde) (nto) (nse) (nhu) (nga) (nsd) (nfa) (nba) (npl) (nen) (nnu) (nwr) (nra) (nik) grf hy0 hy1 hy2 hy3 hy4 hy5 hy6 hy7 hy8 hy9 hy10 hy11 hy12 hy13 H.size) (cwV 1 hts gX8_pull_X8_no rfl rfl rfl ⟨rfl, dh_X8_no⟩ ⟨Nat.le_of_ble_eq_true rfl, Nat.le_of_ble_eq_true rfl⟩) hK hN (hZ.kept hS) hP hD hS hA [0, 1] [2, 3, 4] rfl rfl (by decide) (by decide) (by decide) (va_recv (q := (RX8, TX8, 38)) hK hP (ci := 8) (q0 := 0) rfl rfl) rfl hl.1 rfl (Nat.le_of_ble_eq_true rfl) dX8_pull_40 ⟨Nat.le_of_ble_eq_true rfl, Nat.le_of_ble_eq_true rfl⟩ (fun r_15 u_16 H locs hr_15 hP hD hS => ?_)
            obtain ⟨q_17, rfl⟩ : ∃ z, z = u_16 := ⟨_, rfl⟩
            have h9R := zRe (ws' := [(mki, .inl (cI, 8, .inl gki)), (mpa, .inl (cI, 8, .inl gpa)), (mta, .inl (cI, 8, .inl gta)), (zMO m0 npu nte nat_ nde nto nse nhu nga nsd nfa mrf mki mpa mta mla msl mco mhe mso msi msh mce mca mwo mnu mte nba npl nen nnu nwr mwa mke mma mth mtr nra nik), (mrf, .inl (cI, 8, .inl q_17))]) hP hD rfl
            clear hP hD
            obtain ⟨hP, hD⟩ := h9R
            obtain rfl := hr_15
            exact W.iret (v := (-6)) hx hb hr (fun t ht hW => ⟨⟨(-6), (npu, q_17, gki, gpa, gta), rfl, ⟨(show 0 ≤ npu.toInt ∧ npu.toInt ≤ 8 from ⟨hy0, hy1⟩), hp_gki, hp_gpa, hp_gta, (show ((-6) : Int32).toInt = zPulR ki.toInt a_.toInt ta.toInt npu.toInt from by (have k9 : ((-6) : Int32).toInt = -6 := (by decide); unfold zPulR; (repeat (first | rw [if_pos (by omega)] | rw [if_neg (by omega)])) <;> omega)), (show (0 ≤ ((-6) : Int32).toInt → npu.toInt = npu.toInt + 1) ∧ (((-6) : Int32).toInt < 0 → npu.toInt = npu.toInt) from by (have k9 : ((-6) : Int32).toInt = -6 := (by decide); omega)), (show (((-6) : Int32).toInt < 0 ∧ gki = gki ∧ gpa = gpa ∧ gta = gta) ∨ (0 ≤ ((-6) : Int32).toInt ∧ gki = upd gki npu.toNatClampNeg ki ∧ gpa = upd gpa npu.toNatClampNeg a_ ∧ gta = upd gta npu.toNatClampNeg ta) from by (have k9 : ((-6) : Int32).toInt = -6 := (by decide); exact Or.inl ⟨by omega, rfl, rfl, rfl⟩)), trivial⟩, zRet ht hP hD [3, 4, 0, 1, 2] (by decide) rfl⟩, hS.F ht⟩) hS.2.2 dX8_pull_43
          · have fc_14 : 1 ≤ ta.toInt := zf_nlt c_14 rfl (by decide)
            refine lv_iload_n hx hb dX8_pull_31 rfl (lv_at hl 3 rfl) ?_
            refine lv_bipush (v := 60) hx hb dX8_pull_32 (by decide) ?_
            refine lv_icmp_le (tgt := 44) hx hb dX8_pull_34 (by decide) (fun c_18 => ?_) (fun c_18 => ?_)
            · have fc_18 : ta.toInt ≤ 60 := zf_le c_18 rfl (by decide)
              refine lv_aload_n hx hb dX8_pull_44 rfl (lv_at hl 0 rfl) ?_
              refine va_get (D := D) (ci := 8) (v := .int npu) (C := RX8) (T := TX8) (N := 38) hx hb hts hi_X8_pull_8 hown hK hP 0 rfl rfl 0 (by decide) (hts (.fieldLink RX8 90 "TheLiningsInItModel" "pulls" "I") (List.mem_of_getElem? (i := 1) rfl)) (fun _ h9 => h9) rfl dX8_pull_45 ?_
              refine lv_bipush (v := 8) hx hb dX8_pull_48 (by decide) ?_
              refine lv_icmp_ne (tgt := 62) hx hb dX8_pull_50 (by decide) (fun c_19 => ?_) (fun c_19 => ?_)
              · have fc_19 : npu.toInt ≠ 8 := zf_ne c_19 rfl (by decide)
                refine lv_aload_n hx hb dX8_pull_62 rfl (lv_at hl 0 rfl) ?_
                refine lv_iload_n hx hb dX8_pull_63 rfl (lv_at hl 1 rfl) ?_
                refine lv_iload_n hx hb dX8_pull_64 rfl (lv_at hl 2 rfl) ?_
                refine lv_iload_n hx hb dX8_pull_65 rfl (lv_at hl 3 rfl) ?_
                skip
                refine zw_V (As := [.int ki, .int a_, .int ta]) (rest := []) (wr := [(mrf, .inl (cI, 8, .inl grf))]) ⟨hx, hb, hml, hown, hts⟩ (c_F_M_addsPull l D cI cJ cZ cP cS po m0 mrf mki mpa mta mla msl mco mhe mso msi msh mce mca mwo mnu mte mwa mke mma mth mtr (npu) (nte) (nat_) (nde) (nto) (nse) (nhu) (nga) (nsd) (nfa) (nba) (npl) (nen) (nnu) (nwr) (nra) (nik) gki gpa gta (ki) (a_) (ta) hy0 hy1 hy2 hy3 hy4 hy5 hy6 hy7 hy8 hy9 hy10 hy11 hy12 hy13 (by omega) (by omega) (by omega) (by omega) (by omega) (by omega) hy0 (by omega) hp_gki hp_gpa hp_gta H.size) (cwV 3 hts gX8_pull_X8_addsPull rfl rfl rfl ⟨rfl, dh_X8_addsPull⟩ ⟨Nat.le_of_ble_eq_true rfl, Nat.le_of_ble_eq_true rfl⟩) hK hN (hZ.kept hS) hP hD hS hA [0, 2, 3, 4] [1] rfl rfl (by decide) (by decide) (by decide) (va_recv (q := (RX8, TX8, 38)) hK hP (ci := 8) (q0 := 0) rfl rfl) rfl hl.1 rfl (Nat.le_of_ble_eq_true rfl) dX8_pull_66 ⟨Nat.le_of_ble_eq_true rfl, Nat.le_of_ble_eq_true rfl⟩ (fun r_20 u_21 H locs hr_20 hP hD hS => ?_)
                obtain ⟨q_22, q_23, q_24, q_25⟩ := u_21
                try dsimp only at hr_20
                obtain ⟨hbq_22, hpq_23, hpq_24, hpq_25, hsr_20_0, hsr_20_1, hsr_20_2, hr_20⟩ := hr_20
                have h9R := zRe (ws' := [(mrf, .inl (cI, 8, .inl grf)), (zMO m0 q_22 nte nat_ nde nto nse nhu nga nsd nfa mrf mki mpa mta mla msl mco mhe mso msi msh mce mca mwo mnu mte nba npl nen nnu nwr mwa mke mma mth mtr nra nik), (mki, .inl (cI, 8, .inl q_23)), (mpa, .inl (cI, 8, .inl q_24)), (mta, .inl (cI, 8, .inl q_25))]) hP hD rfl
                clear hP hD
                obtain ⟨hP, hD⟩ := h9R
                obtain ⟨g_26, g_27⟩ := hr_20
                exact W.iret (v := r_20) hx hb hr (fun t ht hW => ⟨⟨r_20, (q_22, grf, q_23, q_24, q_25), rfl, ⟨(show 0 ≤ q_22.toInt ∧ q_22.toInt ≤ 8 from hbq_22), hpq_23, hpq_24, hpq_25, (show (r_20 : Int32).toInt = zPulR ki.toInt a_.toInt ta.toInt npu.toInt from by (unfold zPulR; (repeat (first | rw [if_pos (by omega)] | rw [if_neg (by omega)])) <;> omega)), (show (0 ≤ (r_20 : Int32).toInt → q_22.toInt = npu.toInt + 1) ∧ ((r_20 : Int32).toInt < 0 → q_22.toInt = npu.toInt) from by (omega)), (show ((r_20 : Int32).toInt < 0 ∧ q_23 = gki ∧ q_24 = gpa ∧ q_25 = gta) ∨ (0 ≤ (r_20 : Int32).toInt ∧ q_23 = upd gki npu.toNatClampNeg ki ∧ q_24 = upd gpa npu.toNatClampNeg a_ ∧ q_25 = upd gta npu.toNatClampNeg ta) from by (exact Or.inr ⟨by omega, hsr_20_2⟩)), trivial⟩, zRet ht hP hD [1, 0, 2, 3, 4] (by decide) rfl⟩, hS.F ht⟩) hS.2.2 dX8_pull_69
              · have fc_19 : npu.toInt = 8 := zf_eq c_19 rfl (by decide)
                refine lv_aload_n hx hb dX8_pull_53 rfl (lv_at hl 0 rfl) ?_
                refine lv_bipush (v := (-7)) hx hb dX8_pull_54 (by decide) ?_
                skip
                refine zw_V (As := [.int (-7)]) (rest := []) (wr := [(mki, .inl (cI, 8, .inl gki)), (mpa, .inl (cI, 8, .inl gpa)), (mta, .inl (cI, 8, .inl gta))]) ⟨hx, hb, hml, hown, hts⟩ (c_M_no_7 l D cI cJ cZ cP cS po m0 mrf mki mpa mta mla msl mco mhe mso msi msh mce mca mwo mnu mte mwa mke mma mth mtr (npu) (nte) (nat_) (nde) (nto) (nse) (nhu) (nga) (nsd) (nfa) (nba) (npl) (nen) (nnu) (nwr) (nra) (nik) grf hy0 hy1 hy2 hy3 hy4 hy5 hy6 hy7 hy8 hy9 hy10 hy11 hy12 hy13 H.size) (cwV 1 hts gX8_pull_X8_no rfl rfl rfl ⟨rfl, dh_X8_no⟩ ⟨Nat.le_of_ble_eq_true rfl, Nat.le_of_ble_eq_true rfl⟩) hK hN (hZ.kept hS) hP hD hS hA [0, 1] [2, 3, 4] rfl rfl (by decide) (by decide) (by decide) (va_recv (q := (RX8, TX8, 38)) hK hP (ci := 8) (q0 := 0) rfl rfl) rfl hl.1 rfl (Nat.le_of_ble_eq_true rfl) dX8_pull_56 ⟨Nat.le_of_ble_eq_true rfl, Nat.le_of_ble_eq_true rfl⟩ (fun r_28 u_29 H locs hr_28 hP hD hS => ?_)
                obtain ⟨q_30, rfl⟩ : ∃ z, z = u_29 := ⟨_, rfl⟩
                have h9R := zRe (ws' := [(mki, .inl (cI, 8, .inl gki)), (mpa, .inl (cI, 8, .inl gpa)), (mta, .inl (cI, 8, .inl gta)), (zMO m0 npu nte nat_ nde nto nse nhu nga nsd nfa mrf mki mpa mta mla msl mco mhe mso msi msh mce mca mwo mnu mte nba npl nen nnu nwr mwa mke mma mth mtr nra nik), (mrf, .inl (cI, 8, .inl q_30))]) hP hD rfl
                clear hP hD
                obtain ⟨hP, hD⟩ := h9R
                obtain rfl := hr_28
                refine lv_goto (tgt := 69) hx hb dX8_pull_59 (by decide) ?_
                exact W.iret (v := (-7)) hx hb hr (fun t ht hW => ⟨⟨(-7), (npu, q_30, gki, gpa, gta), rfl, ⟨(show 0 ≤ npu.toInt ∧ npu.toInt ≤ 8 from ⟨hy0, hy1⟩), hp_gki, hp_gpa, hp_gta, (show ((-7) : Int32).toInt = zPulR ki.toInt a_.toInt ta.toInt npu.toInt from by (have k9 : ((-7) : Int32).toInt = -7 := (by decide); unfold zPulR; (repeat (first | rw [if_pos (by omega)] | rw [if_neg (by omega)])) <;> omega)), (show (0 ≤ ((-7) : Int32).toInt → npu.toInt = npu.toInt + 1) ∧ (((-7) : Int32).toInt < 0 → npu.toInt = npu.toInt) from by (have k9 : ((-7) : Int32).toInt = -7 := (by decide); omega)), (show (((-7) : Int32).toInt < 0 ∧ gki = gki ∧ gpa = gpa ∧ gta = gta) ∨ (0 ≤ ((-7) : Int32).toInt ∧ gki = upd gki npu.toNatClampNeg ki ∧ gpa = upd gpa npu.toNatClampNeg a_ ∧ gta = upd gta npu.toNatClampNeg ta) from by (have k9 : ((-7) : Int32).toInt = -7 := (by decide); exact Or.inl ⟨by omega, rfl, rfl, rfl⟩)), trivial⟩, zRet ht hP hD [3, 4, 0, 1, 2] (by decide) rfl⟩, hS.F ht⟩) hS.2.2 dX8_pull_69
            · have fc_18 : 60 < ta.toInt := zf_nle c_18 rfl (by decide)
              refine lv_aload_n hx hb dX8_pull_37 rfl (lv_at hl 0 rfl) ?_
              refine lv_bipush (v := (-6)) hx hb dX8_pull_38 (by decide) ?_
              skip
              refine zw_V (As := [.int (-6)]) (rest := []) (wr := [(mki, .inl (cI, 8, .inl gki)), (mpa, .inl (cI, 8, .inl gpa)), (mta, .inl (cI, 8, .inl gta))]) ⟨hx, hb, hml, hown, hts⟩ (c_M_no_6 l D cI cJ cZ cP cS po m0 mrf mki mpa mta mla msl mco mhe mso msi msh mce mca mwo mnu mte mwa mke mma mth mtr (npu) (nte) (nat_) (nde) (nto) (nse) (nhu) (nga) (nsd) (nfa) (nba) (npl) (nen) (nnu) (nwr) (nra) (nik) grf hy0 hy1 hy2 hy3 hy4 hy5 hy6 hy7 hy8 hy9 hy10 hy11 hy12 hy13 H.size) (cwV 1 hts gX8_pull_X8_no rfl rfl rfl ⟨rfl, dh_X8_no⟩ ⟨Nat.le_of_ble_eq_true rfl, Nat.le_of_ble_eq_true rfl⟩) hK hN (hZ.kept hS) hP hD hS hA [0, 1] [2, 3, 4] rfl rfl (by decide) (by decide) (by decide) (va_recv (q := (RX8, TX8, 38)) hK hP (ci := 8) (q0 := 0) rfl rfl) rfl hl.1 rfl (Nat.le_of_ble_eq_true rfl) dX8_pull_40 ⟨Nat.le_of_ble_eq_true rfl, Nat.le_of_ble_eq_true rfl⟩ (fun r_31 u_32 H locs hr_31 hP hD hS => ?_)
              obtain ⟨q_33, rfl⟩ : ∃ z, z = u_32 := ⟨_, rfl⟩
              have h9R := zRe (ws' := [(mki, .inl (cI, 8, .inl gki)), (mpa, .inl (cI, 8, .inl gpa)), (mta, .inl (cI, 8, .inl gta)), (zMO m0 npu nte nat_ nde nto nse nhu nga nsd nfa mrf mki mpa mta mla msl mco mhe mso msi msh mce mca mwo mnu mte nba npl nen nnu nwr mwa mke mma mth mtr nra nik), (mrf, .inl (cI, 8, .inl q_33))]) hP hD rfl
              clear hP hD
              obtain ⟨hP, hD⟩ := h9R
              obtain rfl := hr_31
              exact W.iret (v := (-6)) hx hb hr (fun t ht hW => ⟨⟨(-6), (npu, q_33, gki, gpa, gta), rfl, ⟨(show 0 ≤ npu.toInt ∧ npu.toInt ≤ 8 from ⟨hy0, hy1⟩), hp_gki, hp_gpa, hp_gta, (show ((-6) : Int32).toInt = zPulR ki.toInt a_.toInt ta.toInt npu.toInt from by (have k9 : ((-6) : Int32).toInt = -6 := (by decide); unfold zPulR; (repeat (first | rw [if_pos (by omega)] | rw [if_neg (by omega)])) <;> omega)), (show (0 ≤ ((-6) : Int32).toInt → npu.toInt = npu.toInt + 1) ∧ (((-6) : Int32).toInt < 0 → npu.toInt = npu.toInt) from by (have k9 : ((-6) : Int32).toInt = -6 := (by decide); omega)), (show (((-6) : Int32).toInt < 0 ∧ gki = gki ∧ gpa = gpa ∧ gta = gta) ∨ (0 ≤ ((-6) : Int32).toInt ∧ gki = upd gki npu.toNatClampNeg ki ∧ gpa = upd gpa npu.toNatClampNeg a_ ∧ gta = upd gta npu.toNatClampNeg ta) from by (have k9 : ((-6) : Int32).toInt = -6 := (by decide); exact Or.inl ⟨by omega, rfl, rfl, rfl⟩)), trivial⟩, zRet ht hP hD [3, 4, 0, 1, 2] (by decide) rfl⟩, hS.F ht⟩) hS.2.2 dX8_pull_43
    · have fc_5 : 6 < ki.toInt := zf_nle c_5 rfl (by decide)
      refine lv_aload_n hx hb dX8_pull_10 rfl (lv_at hl 0 rfl) ?_
      refine lv_iconst (v := (-1)) hx hb dX8_pull_11 (by decide) ?_
      skip
      refine zw_V (As := [.int (-1)]) (rest := []) (wr := [(mki, .inl (cI, 8, .inl gki)), (mpa, .inl (cI, 8, .inl gpa)), (mta, .inl (cI, 8, .inl gta))]) ⟨hx, hb, hml, hown, hts⟩ (c_M_no_1 l D cI cJ cZ cP cS po m0 mrf mki mpa mta mla msl mco mhe mso msi msh mce mca mwo mnu mte mwa mke mma mth mtr (npu) (nte) (nat_) (nde) (nto) (nse) (nhu) (nga) (nsd) (nfa) (nba) (npl) (nen) (nnu) (nwr) (nra) (nik) grf hy0 hy1 hy2 hy3 hy4 hy5 hy6 hy7 hy8 hy9 hy10 hy11 hy12 hy13 H.size) (cwV 1 hts gX8_pull_X8_no rfl rfl rfl ⟨rfl, dh_X8_no⟩ ⟨Nat.le_of_ble_eq_true rfl, Nat.le_of_ble_eq_true rfl⟩) hK hN (hZ.kept hS) hP hD hS hA [0, 1] [2, 3, 4] rfl rfl (by decide) (by decide) (by decide) (va_recv (q := (RX8, TX8, 38)) hK hP (ci := 8) (q0 := 0) rfl rfl) rfl hl.1 rfl (Nat.le_of_ble_eq_true rfl) dX8_pull_12 ⟨Nat.le_of_ble_eq_true rfl, Nat.le_of_ble_eq_true rfl⟩ (fun r_34 u_35 H locs hr_34 hP hD hS => ?_)
      obtain ⟨q_36, rfl⟩ : ∃ z, z = u_35 := ⟨_, rfl⟩
      have h9R := zRe (ws' := [(mki, .inl (cI, 8, .inl gki)), (mpa, .inl (cI, 8, .inl gpa)), (mta, .inl (cI, 8, .inl gta)), (zMO m0 npu nte nat_ nde nto nse nhu nga nsd nfa mrf mki mpa mta mla msl mco mhe mso msi msh mce mca mwo mnu mte nba npl nen nnu nwr mwa mke mma mth mtr nra nik), (mrf, .inl (cI, 8, .inl q_36))]) hP hD rfl
      clear hP hD
      obtain ⟨hP, hD⟩ := h9R
      obtain rfl := hr_34
      exact W.iret (v := (-1)) hx hb hr (fun t ht hW => ⟨⟨(-1), (npu, q_36, gki, gpa, gta), rfl, ⟨(show 0 ≤ npu.toInt ∧ npu.toInt ≤ 8 from ⟨hy0, hy1⟩), hp_gki, hp_gpa, hp_gta, (show ((-1) : Int32).toInt = zPulR ki.toInt a_.toInt ta.toInt npu.toInt from by (have k9 : ((-1) : Int32).toInt = -1 := (by decide); unfold zPulR; (repeat (first | rw [if_pos (by omega)] | rw [if_neg (by omega)])) <;> omega)), (show (0 ≤ ((-1) : Int32).toInt → npu.toInt = npu.toInt + 1) ∧ (((-1) : Int32).toInt < 0 → npu.toInt = npu.toInt) from by (have k9 : ((-1) : Int32).toInt = -1 := (by decide); omega)), (show (((-1) : Int32).toInt < 0 ∧ gki = gki ∧ gpa = gpa ∧ gta = gta) ∨ (0 ≤ ((-1) : Int32).toInt ∧ gki = upd gki npu.toNatClampNeg ki ∧ gpa = upd gpa npu.toNatClampNeg a_ ∧ gta = upd gta npu.toNatClampNeg ta) from by (have k9 : ((-1) : Int32).toInt = -1 := (by decide); exact Or.inl ⟨by omega, rfl, rfl, rfl⟩)), trivial⟩, zRet ht hP hD [3, 4, 0, 1, 2] (by decide) rfl⟩, hS.F ht⟩) hS.2.2 dX8_pull_15
set_option maxHeartbeats 4000000 in
set_option maxRecDepth 100000 in
theorem c_F_M_teeth (l : Launch) (D : va_G) (cI cJ cZ cP cS : ClassId) (po : zPool) (m0 mrf mki mpa mta mla msl mco mhe mso msi msh mce mca mwo mnu mte mwa mke mma mth mtr : Nat) (npu nte nat_ nde nto nse nhu nga nsd nfa nba npl nen nnu nwr nra nik : Int32) (grf gla gsl : Nat → Int32) (n : Int32) (hy0 : 0 ≤ npu.toInt) (hy1 : npu.toInt ≤ 8) (hy2 : 4 ≤ nte.toInt) (hy3 : nte.toInt ≤ 40) (hy4 : 0 ≤ nat_.toInt) (hy5 : nat_.toInt ≤ 40) (hy6 : 0 ≤ nde.toInt) (hy7 : nde.toInt ≤ 24) (hy8 : 0 ≤ nhu.toInt) (hy9 : nhu.toInt ≤ 9) (hy10 : 0 ≤ nra.toInt) (hy11 : nra.toInt ≤ 2000) (hy12 : 0 ≤ nik.toInt) (hy13 : nik.toInt ≤ 1) (hp_gla : zRg gla (0) 1) (hp_gsl : zRg gsl (0) 9) (hpz : Nat) : Met l yX8_teeth wsX8_teeth ({ frames := 1, cells := 0, slots := 0, locals := 22 }) (va_Pc [.ref m0, .int n] (zW D (zKT cI cJ cZ cP cS) po [(zMO m0 npu nte nat_ nde nto nse nhu nga nsd nfa mrf mki mpa mta mla msl mco mhe mso msi msh mce mca mwo mnu mte nba npl nen nnu nwr mwa mke mma mth mtr nra nik), (mrf, .inl (cI, 8, .inl grf)), (mla, .inl (cI, 40, .inl gla)), (msl, .inl (cI, 40, .inl gsl))] hpz)) (va_Qi (fun (r : Int32) (u : (Int32) × (Int32) × (Nat → Int32) × (Nat → Int32) × (Nat → Int32)) => (4 ≤ u.1.toInt ∧ u.1.toInt ≤ 40) ∧ (0 ≤ u.2.1.toInt ∧ u.2.1.toInt ≤ 40) ∧ zRg u.2.2.2.1 (0) 1 ∧ zRg u.2.2.2.2 (0) 9 ∧ (((4 ≤ n.toInt ∧ n.toInt ≤ 40) ∧ r.toInt = nte.toInt ∧ u.1.toInt = n.toInt) ∨ (¬ (4 ≤ n.toInt ∧ n.toInt ≤ 40) ∧ r.toInt = -6 ∧ u.1.toInt = nte.toInt)) ∧ (((4 ≤ n.toInt ∧ n.toInt ≤ 40) ∧ (∀ j : Nat, j < 40 → u.2.2.2.1 j = 0) ∧ (∀ j : Nat, j < 40 → u.2.2.2.2 j = 0) ∧ u.2.1.toInt = 0) ∨ (¬ (4 ≤ n.toInt ∧ n.toInt ≤ 40) ∧ u.2.2.2.1 = gla ∧ u.2.2.2.2 = gsl ∧ u.2.1 = nat_)) ∧ (True)) (zB D [(zMO m0 npu nte nat_ nde nto nse nhu nga nsd nfa mrf mki mpa mta mla msl mco mhe mso msi msh mce mca mwo mnu mte nba npl nen nnu nwr mwa mke mma mth mtr nra nik), (mrf, .inl (cI, 8, .inl grf)), (mla, .inl (cI, 40, .inl gla)), (msl, .inl (cI, 40, .inl gsl))] hpz (fun (u : (Int32) × (Int32) × (Nat → Int32) × (Nat → Int32) × (Nat → Int32)) => [(zMO m0 npu u.1 u.2.1 nde nto nse nhu nga nsd nfa mrf mki mpa mta mla msl mco mhe mso msi msh mce mca mwo mnu mte nba npl nen nnu nwr mwa mke mma mth mtr nra nik), (mrf, .inl (cI, 8, .inl u.2.2.1)), (mla, .inl (cI, 40, .inl u.2.2.2.1)), (msl, .inl (cI, 40, .inl u.2.2.2.2))])) (va_A [(zMO m0 npu nte nat_ nde nto nse nhu nga nsd nfa mrf mki mpa mta mla msl mco mhe mso msi msh mce mca mwo mnu mte nba npl nen nnu nwr mwa mke mma mth mtr nra nik), (mrf, .inl (cI, 8, .inl grf)), (mla, .inl (cI, 40, .inl gla)), (msl, .inl (cI, 40, .inl gsl))] hpz)) 0 0 (va_A [(zMO m0 npu nte nat_ nde nto nse nhu nga nsd nfa mrf mki mpa mta mla msl mco mhe mso msi msh mce mca mwo mnu mte nba npl nen nnu nwr mwa mke mma mth mtr nra nik), (mrf, .inl (cI, 8, .inl grf)), (mla, .inl (cI, 40, .inl gla)), (msl, .inl (cI, 40, .inl gsl))] hpz) := by
  refine Met.ofW (cc := cX8_teeth) (maxL := 3) (ret := (some .int)) (by decide) rfl ?_
  intro p e s m args below meth c s₁ B hml hv
  obtain ⟨rfl, hsz, hP, hK, hD0, hN, hZ⟩ := hv
  have hx := B.exec
  have hb := B.bytes
  have hr := B.returns
  have hts := atoms_spec (ws := wsX8_teeth) B.pre
  have hown : s.vm.findClass RX8 = some m.cls := findClass_of_methodNamed B.named
  have hlocks := B.notSynchronized
  subst hsz
  have hD := hD0.self (sz := s.heap.size)
  have hA := zA_of hD
  have hl := lv_entry ([.ref m0, .int n]) (n := 3) (Nat.le_of_ble_eq_true rfl)
  rw [lg_entry_eq]
  generalize (lg_sl ([.ref m0, .int n]) ++ List.replicate (3 - (lg_sl ([.ref m0, .int n])).length) Slot.unset).toArray = ls at hl ⊢
  replace hl : lv_has ls 3 [(0, .ref m0), (1, .int n)] := hl
  refine zw_begin hP hD (fun H locs hP1 hS => ?_)
  clear hP
  have hP := hP1
  clear hP1
  refine lv_iload_n hx hb dX8_teeth_0 rfl (lv_at hl 1 rfl) ?_
  refine lv_iconst (v := 4) hx hb dX8_teeth_1 (by decide) ?_
  refine lv_icmp_lt (tgt := 11) hx hb dX8_teeth_2 (by decide) (fun c_1 => ?_) (fun c_1 => ?_)
  · have fc_1 : n.toInt < 4 := zf_lt c_1 rfl (by decide)
    refine lv_aload_n hx hb dX8_teeth_11 rfl (lv_at hl 0 rfl) ?_
    refine lv_bipush (v := (-6)) hx hb dX8_teeth_12 (by decide) ?_
    skip
    refine zw_V (As := [.int (-6)]) (rest := []) (wr := [(mla, .inl (cI, 40, .inl gla)), (msl, .inl (cI, 40, .inl gsl))]) ⟨hx, hb, hml, hown, hts⟩ (c_M_no_6 l D cI cJ cZ cP cS po m0 mrf mki mpa mta mla msl mco mhe mso msi msh mce mca mwo mnu mte mwa mke mma mth mtr (npu) (nte) (nat_) (nde) (nto) (nse) (nhu) (nga) (nsd) (nfa) (nba) (npl) (nen) (nnu) (nwr) (nra) (nik) grf hy0 hy1 hy2 hy3 hy4 hy5 hy6 hy7 hy8 hy9 hy10 hy11 hy12 hy13 H.size) (cwV 1 hts gX8_teeth_X8_no rfl rfl rfl ⟨rfl, dh_X8_no⟩ ⟨Nat.le_of_ble_eq_true rfl, Nat.le_of_ble_eq_true rfl⟩) hK hN (hZ.kept hS) hP hD hS hA [0, 1] [2, 3] rfl rfl (by decide) (by decide) (by decide) (va_recv (q := (RX8, TX8, 38)) hK hP (ci := 8) (q0 := 0) rfl rfl) rfl hl.1 rfl (Nat.le_of_ble_eq_true rfl) dX8_teeth_14 ⟨Nat.le_of_ble_eq_true rfl, Nat.le_of_ble_eq_true rfl⟩ (fun r_2 u_3 H locs hr_2 hP hD hS => ?_)
    obtain ⟨q_4, rfl⟩ : ∃ z, z = u_3 := ⟨_, rfl⟩
    have h9R := zRe (ws' := [(mla, .inl (cI, 40, .inl gla)), (msl, .inl (cI, 40, .inl gsl)), (zMO m0 npu nte nat_ nde nto nse nhu nga nsd nfa mrf mki mpa mta mla msl mco mhe mso msi msh mce mca mwo mnu mte nba npl nen nnu nwr mwa mke mma mth mtr nra nik), (mrf, .inl (cI, 8, .inl q_4))]) hP hD rfl
    clear hP hD
    obtain ⟨hP, hD⟩ := h9R
    obtain rfl := hr_2
    exact W.iret (v := (-6)) hx hb hr (fun t ht hW => ⟨⟨(-6), (nte, nat_, q_4, gla, gsl), rfl, ⟨(show 4 ≤ nte.toInt ∧ nte.toInt ≤ 40 from ⟨hy2, hy3⟩), (show 0 ≤ nat_.toInt ∧ nat_.toInt ≤ 40 from ⟨hy4, hy5⟩), hp_gla, hp_gsl, (show ((4 ≤ n.toInt ∧ n.toInt ≤ 40) ∧ ((-6) : Int32).toInt = nte.toInt ∧ nte.toInt = n.toInt) ∨ (¬ (4 ≤ n.toInt ∧ n.toInt ≤ 40) ∧ ((-6) : Int32).toInt = -6 ∧ nte.toInt = nte.toInt) from by (have k9 : ((-6) : Int32).toInt = -6 := (by decide); omega)), (show ((4 ≤ n.toInt ∧ n.toInt ≤ 40) ∧ (∀ j : Nat, j < 40 → gla j = 0) ∧ (∀ j : Nat, j < 40 → gsl j = 0) ∧ nat_.toInt = 0) ∨ (¬ (4 ≤ n.toInt ∧ n.toInt ≤ 40) ∧ gla = gla ∧ gsl = gsl ∧ nat_ = nat_) from by (exact Or.inr ⟨by omega, rfl, rfl, rfl⟩)), trivial⟩, zRet ht hP hD [2, 3, 0, 1] (by decide) rfl⟩, hS.F ht⟩) hS.2.2 dX8_teeth_17
  · have fc_1 : 4 ≤ n.toInt := zf_nlt c_1 rfl (by decide)
    refine lv_iload_n hx hb dX8_teeth_5 rfl (lv_at hl 1 rfl) ?_
    refine lv_bipush (v := 40) hx hb dX8_teeth_6 (by decide) ?_
    refine lv_icmp_le (tgt := 18) hx hb dX8_teeth_8 (by decide) (fun c_5 => ?_) (fun c_5 => ?_)
    · have fc_5 : n.toInt ≤ 40 := zf_le c_5 rfl (by decide)
      refine lv_aload_n hx hb dX8_teeth_18 rfl (lv_at hl 0 rfl) ?_
      refine va_get (D := D) (ci := 8) (v := .int nte) (C := RX8) (T := TX8) (N := 38) hx hb hts hi_X8_teeth_8 hown hK hP 0 rfl rfl 1 (by decide) (hts (.fieldLink RX8 7 "TheLiningsInItModel" "teeth" "I") (List.mem_of_getElem? (i := 1) rfl)) (fun _ h9 => h9) rfl dX8_teeth_19 ?_
      refine lv_istore_n (lv' := [(2, .int nte), (0, .ref m0), (1, .int n)]) hx hb dX8_teeth_22 rfl hl (by decide) rfl (fun ls hl => ?_)
      refine lv_aload_n hx hb dX8_teeth_23 rfl (lv_at hl 1 rfl) ?_
      refine lv_iload_n hx hb dX8_teeth_24 rfl (lv_at hl 2 rfl) ?_
      skip
      refine zw_Vv (As := [.int n]) (rest := []) (wr := [(mrf, .inl (cI, 8, .inl grf))]) ⟨hx, hb, hml, hown, hts⟩ (c_F_M_sews l D cI cJ cZ cP cS po m0 mrf mki mpa mta mla msl mco mhe mso msi msh mce mca mwo mnu mte mwa mke mma mth mtr (npu) (nte) (nat_) (nde) (nto) (nse) (nhu) (nga) (nsd) (nfa) (nba) (npl) (nen) (nnu) (nwr) (nra) (nik) gla gsl (n) hy0 hy1 hy2 hy3 hy4 hy5 hy6 hy7 hy8 hy9 hy10 hy11 hy12 hy13 (by omega) (by omega) hp_gla hp_gsl H.size) (cwV 1 hts gX8_teeth_X8_sews rfl rfl rfl ⟨rfl, dh_X8_sews⟩ ⟨Nat.le_of_ble_eq_true rfl, Nat.le_of_ble_eq_true rfl⟩) hK hN (hZ.kept hS) hP hD hS hA [0, 2, 3] [1] rfl rfl (by decide) (by decide) (by decide) (va_recv (q := (RX8, TX8, 38)) hK hP (ci := 8) (q0 := 0) rfl rfl) rfl hl.1 rfl (Nat.le_of_ble_eq_true rfl) dX8_teeth_25 ⟨Nat.le_of_ble_eq_true rfl, Nat.le_of_ble_eq_true rfl⟩ (fun u_7 H locs hr_6 hP hD hS => ?_)
      obtain ⟨q_8, q_9, q_10, q_11⟩ := u_7
      try dsimp only at hr_6
      obtain ⟨hbq_8, hbq_9, hpq_10, hpq_11, hsr_6_0, hsr_6_1, hsr_6_2, hsr_6_3, hr_6⟩ := hr_6
      have h9R := zRe (ws' := [(mrf, .inl (cI, 8, .inl grf)), (zMO m0 npu q_8 q_9 nde nto nse nhu nga nsd nfa mrf mki mpa mta mla msl mco mhe mso msi msh mce mca mwo mnu mte nba npl nen nnu nwr mwa mke mma mth mtr nra nik), (mla, .inl (cI, 40, .inl q_10)), (msl, .inl (cI, 40, .inl q_11))]) hP hD rfl
      clear hP hD
      obtain ⟨hP, hD⟩ := h9R
      refine lv_iload_n hx hb dX8_teeth_28 rfl (lv_at hl 0 rfl) ?_
      exact W.iret (v := nte) hx hb hr (fun t ht hW => ⟨⟨nte, (q_8, q_9, grf, q_10, q_11), rfl, ⟨(show 4 ≤ q_8.toInt ∧ q_8.toInt ≤ 40 from hbq_8), (show 0 ≤ q_9.toInt ∧ q_9.toInt ≤ 40 from hbq_9), hpq_10, hpq_11, (show ((4 ≤ n.toInt ∧ n.toInt ≤ 40) ∧ (nte : Int32).toInt = nte.toInt ∧ q_8.toInt = n.toInt) ∨ (¬ (4 ≤ n.toInt ∧ n.toInt ≤ 40) ∧ (nte : Int32).toInt = -6 ∧ q_8.toInt = nte.toInt) from by (exact Or.inl ⟨by omega, by omega, congrArg Int32.toInt hsr_6_0⟩)), (show ((4 ≤ n.toInt ∧ n.toInt ≤ 40) ∧ (∀ j : Nat, j < 40 → q_10 j = 0) ∧ (∀ j : Nat, j < 40 → q_11 j = 0) ∧ q_9.toInt = 0) ∨ (¬ (4 ≤ n.toInt ∧ n.toInt ≤ 40) ∧ q_10 = gla ∧ q_11 = gsl ∧ q_9 = nat_) from by (exact Or.inl ⟨by omega, hsr_6_1, hsr_6_2, hsr_6_3⟩)), trivial⟩, zRet ht hP hD [1, 0, 2, 3] (by decide) rfl⟩, hS.F ht⟩) hS.2.2 dX8_teeth_29
    · have fc_5 : 40 < n.toInt := zf_nle c_5 rfl (by decide)
      refine lv_aload_n hx hb dX8_teeth_11 rfl (lv_at hl 0 rfl) ?_
      refine lv_bipush (v := (-6)) hx hb dX8_teeth_12 (by decide) ?_
      skip
      refine zw_V (As := [.int (-6)]) (rest := []) (wr := [(mla, .inl (cI, 40, .inl gla)), (msl, .inl (cI, 40, .inl gsl))]) ⟨hx, hb, hml, hown, hts⟩ (c_M_no_6 l D cI cJ cZ cP cS po m0 mrf mki mpa mta mla msl mco mhe mso msi msh mce mca mwo mnu mte mwa mke mma mth mtr (npu) (nte) (nat_) (nde) (nto) (nse) (nhu) (nga) (nsd) (nfa) (nba) (npl) (nen) (nnu) (nwr) (nra) (nik) grf hy0 hy1 hy2 hy3 hy4 hy5 hy6 hy7 hy8 hy9 hy10 hy11 hy12 hy13 H.size) (cwV 1 hts gX8_teeth_X8_no rfl rfl rfl ⟨rfl, dh_X8_no⟩ ⟨Nat.le_of_ble_eq_true rfl, Nat.le_of_ble_eq_true rfl⟩) hK hN (hZ.kept hS) hP hD hS hA [0, 1] [2, 3] rfl rfl (by decide) (by decide) (by decide) (va_recv (q := (RX8, TX8, 38)) hK hP (ci := 8) (q0 := 0) rfl rfl) rfl hl.1 rfl (Nat.le_of_ble_eq_true rfl) dX8_teeth_14 ⟨Nat.le_of_ble_eq_true rfl, Nat.le_of_ble_eq_true rfl⟩ (fun r_12 u_13 H locs hr_12 hP hD hS => ?_)
      obtain ⟨q_14, rfl⟩ : ∃ z, z = u_13 := ⟨_, rfl⟩
      have h9R := zRe (ws' := [(mla, .inl (cI, 40, .inl gla)), (msl, .inl (cI, 40, .inl gsl)), (zMO m0 npu nte nat_ nde nto nse nhu nga nsd nfa mrf mki mpa mta mla msl mco mhe mso msi msh mce mca mwo mnu mte nba npl nen nnu nwr mwa mke mma mth mtr nra nik), (mrf, .inl (cI, 8, .inl q_14))]) hP hD rfl
      clear hP hD
      obtain ⟨hP, hD⟩ := h9R
      obtain rfl := hr_12
      exact W.iret (v := (-6)) hx hb hr (fun t ht hW => ⟨⟨(-6), (nte, nat_, q_14, gla, gsl), rfl, ⟨(show 4 ≤ nte.toInt ∧ nte.toInt ≤ 40 from ⟨hy2, hy3⟩), (show 0 ≤ nat_.toInt ∧ nat_.toInt ≤ 40 from ⟨hy4, hy5⟩), hp_gla, hp_gsl, (show ((4 ≤ n.toInt ∧ n.toInt ≤ 40) ∧ ((-6) : Int32).toInt = nte.toInt ∧ nte.toInt = n.toInt) ∨ (¬ (4 ≤ n.toInt ∧ n.toInt ≤ 40) ∧ ((-6) : Int32).toInt = -6 ∧ nte.toInt = nte.toInt) from by (have k9 : ((-6) : Int32).toInt = -6 := (by decide); omega)), (show ((4 ≤ n.toInt ∧ n.toInt ≤ 40) ∧ (∀ j : Nat, j < 40 → gla j = 0) ∧ (∀ j : Nat, j < 40 → gsl j = 0) ∧ nat_.toInt = 0) ∨ (¬ (4 ≤ n.toInt ∧ n.toInt ≤ 40) ∧ gla = gla ∧ gsl = gsl ∧ nat_ = nat_) from by (exact Or.inr ⟨by omega, rfl, rfl, rfl⟩)), trivial⟩, zRet ht hP hD [2, 3, 0, 1] (by decide) rfl⟩, hS.F ht⟩) hS.2.2 dX8_teeth_17
set_option maxHeartbeats 4000000 in
set_option maxRecDepth 100000 in
theorem c_F_M_fault (l : Launch) (D : va_G) (cI cJ cZ cP cS : ClassId) (po : zPool) (m0 mrf mki mpa mta mla msl mco mhe mso msi msh mce mca mwo mnu mte mwa mke mma mth mtr : Nat) (npu nte nat_ nde nto nse nhu nga nsd nfa nba npl nen nnu nwr nra nik : Int32) (hy0 : 0 ≤ npu.toInt) (hy1 : npu.toInt ≤ 8) (hy2 : 4 ≤ nte.toInt) (hy3 : nte.toInt ≤ 40) (hy4 : 0 ≤ nat_.toInt) (hy5 : nat_.toInt ≤ 40) (hy6 : 0 ≤ nde.toInt) (hy7 : nde.toInt ≤ 24) (hy8 : 0 ≤ nhu.toInt) (hy9 : nhu.toInt ≤ 9) (hy10 : 0 ≤ nra.toInt) (hy11 : nra.toInt ≤ 2000) (hy12 : 0 ≤ nik.toInt) (hy13 : nik.toInt ≤ 1) : Met l yX8_fault wsX8_fault ({ frames := 0, cells := 0, slots := 0, locals := 0 }) (va_Pc [.ref m0] (zR D (zKT cI cJ cZ cP cS) po [(zMO m0 npu nte nat_ nde nto nse nhu nga nsd nfa mrf mki mpa mta mla msl mco mhe mso msi msh mce mca mwo mnu mte nba npl nen nnu nwr mwa mke mma mth mtr nra nik)])) (vp_Si (fun r => (r.toInt = nfa.toInt))) 0 0 (fun _ => False) := by
  refine Met.ofW (cc := cX8_fault) (maxL := 1) (ret := (some .int)) (by decide) rfl ?_
  intro p e s m args below meth c s₁ B hml hv
  obtain ⟨rfl, hP, hK, hN, hZ⟩ := hv
  have hx := B.exec
  have hb := B.bytes
  have hr := B.returns
  have hts := atoms_spec (ws := wsX8_fault) B.pre
  have hown : s.vm.findClass RX8 = some m.cls := findClass_of_methodNamed B.named
  have hlocks := B.notSynchronized
  have hl := lv_entry ([.ref m0]) (n := 1) (Nat.le_of_ble_eq_true rfl)
  rw [lg_entry_eq]
  generalize (lg_sl ([.ref m0]) ++ List.replicate (1 - (lg_sl ([.ref m0])).length) Slot.unset).toArray = ls at hl ⊢
  replace hl : lv_has ls 1 [(0, .ref m0)] := hl
  refine lv_aload_n hx hb dX8_fault_0 rfl (lv_at hl 0 rfl) ?_
  refine va_get (D := D) (ci := 8) (v := .int nfa) (C := RX8) (T := TX8) (N := 38) hx hb hts hi_X8_fault_8 hown hK hP 0 rfl rfl 9 (by decide) (hts (.fieldLink RX8 22 "TheLiningsInItModel" "fault" "I") (List.mem_of_getElem? (i := 1) rfl)) (fun _ h9 => h9) rfl dX8_fault_1 ?_
  exact W.iret (v := nfa) hx hb hr (fun t ht hW => ⟨nfa, rfl, (show (nfa : Int32).toInt = nfa.toInt from by rfl), ht⟩) (fun q hq => by cases hq) dX8_fault_4
set_option maxHeartbeats 4000000 in
set_option maxRecDepth 100000 in
theorem c_F_M_image (l : Launch) (D : va_G) (cI cJ cZ cP cS : ClassId) (po : zPool) (m0 mrf mki mpa mta mla msl mco mhe mso msi msh mce mca mwo mnu mte mwa mke mma mth mtr : Nat) (npu nte nat_ nde nto nse nhu nga nsd nfa nba npl nen nnu nwr nra nik : Int32) (gki gpa gta gla gsl gco gke : Nat → Int32) (hy0 : 0 ≤ npu.toInt) (hy1 : npu.toInt ≤ 8) (hy2 : 4 ≤ nte.toInt) (hy3 : nte.toInt ≤ 40) (hy4 : 0 ≤ nat_.toInt) (hy5 : nat_.toInt ≤ 40) (hy6 : 0 ≤ nde.toInt) (hy7 : nde.toInt ≤ 24) (hy8 : 0 ≤ nhu.toInt) (hy9 : nhu.toInt ≤ 9) (hy10 : 0 ≤ nra.toInt) (hy11 : nra.toInt ≤ 2000) (hy12 : 0 ≤ nik.toInt) (hy13 : nik.toInt ≤ 1) (hp_gki : zRg gki (0) 6) (hp_gpa : zRg gpa (0) 9) (hp_gta : zRg gta (0) 60) (hp_gla : zRg gla (0) 1) (hp_gsl : zRg gsl (0) 9) (hp_gco : zRg gco (0) 99) (hpz : Nat) : Met l yX8_image wsX8_image ({ frames := 2, cells := 0, slots := 0, locals := 49 }) (va_Pc [.ref m0] (zW D (zKT cI cJ cZ cP cS) po [(zMO m0 npu nte nat_ nde nto nse nhu nga nsd nfa mrf mki mpa mta mla msl mco mhe mso msi msh mce mca mwo mnu mte nba npl nen nnu nwr mwa mke mma mth mtr nra nik), (mki, .inl (cI, 8, .inl gki)), (mpa, .inl (cI, 8, .inl gpa)), (mta, .inl (cI, 8, .inl gta)), (mla, .inl (cI, 40, .inl gla)), (msl, .inl (cI, 40, .inl gsl)), (mco, .inl (cI, 3, .inl gco)), (mke, .inl (cI, 130, .inl gke))] hpz)) (va_Qi (fun (r : Int32) (u : (Nat → Int32) × (Int32)) => (0 ≤ u.2.toInt ∧ u.2.toInt ≤ 1) ∧ (zKp u.1) ∧ ((∀ j : Nat, j < 116 → u.1 j = zAll gki gpa gta gla gsl gco npu nte nat_ nde nto nse nhu nga nsd j)) ∧ (u.2.toInt = 1 ∧ r.toInt = npu.toInt) ∧ ((u.1 107).toInt = npu.toInt ∧ (u.1 108).toInt = nte.toInt) ∧ (True)) (zB D [(zMO m0 npu nte nat_ nde nto nse nhu nga nsd nfa mrf mki mpa mta mla msl mco mhe mso msi msh mce mca mwo mnu mte nba npl nen nnu nwr mwa mke mma mth mtr nra nik), (mki, .inl (cI, 8, .inl gki)), (mpa, .inl (cI, 8, .inl gpa)), (mta, .inl (cI, 8, .inl gta)), (mla, .inl (cI, 40, .inl gla)), (msl, .inl (cI, 40, .inl gsl)), (mco, .inl (cI, 3, .inl gco)), (mke, .inl (cI, 130, .inl gke))] hpz (fun (u : (Nat → Int32) × (Int32)) => [(zMO m0 npu nte nat_ nde nto nse nhu nga nsd nfa mrf mki mpa mta mla msl mco mhe mso msi msh mce mca mwo mnu mte nba npl nen nnu nwr mwa mke mma mth mtr nra u.2), (mki, .inl (cI, 8, .inl gki)), (mpa, .inl (cI, 8, .inl gpa)), (mta, .inl (cI, 8, .inl gta)), (mla, .inl (cI, 40, .inl gla)), (msl, .inl (cI, 40, .inl gsl)), (mco, .inl (cI, 3, .inl gco)), (mke, .inl (cI, 130, .inl u.1))])) (va_A [(zMO m0 npu nte nat_ nde nto nse nhu nga nsd nfa mrf mki mpa mta mla msl mco mhe mso msi msh mce mca mwo mnu mte nba npl nen nnu nwr mwa mke mma mth mtr nra nik), (mki, .inl (cI, 8, .inl gki)), (mpa, .inl (cI, 8, .inl gpa)), (mta, .inl (cI, 8, .inl gta)), (mla, .inl (cI, 40, .inl gla)), (msl, .inl (cI, 40, .inl gsl)), (mco, .inl (cI, 3, .inl gco)), (mke, .inl (cI, 130, .inl gke))] hpz)) 0 0 (va_A [(zMO m0 npu nte nat_ nde nto nse nhu nga nsd nfa mrf mki mpa mta mla msl mco mhe mso msi msh mce mca mwo mnu mte nba npl nen nnu nwr mwa mke mma mth mtr nra nik), (mki, .inl (cI, 8, .inl gki)), (mpa, .inl (cI, 8, .inl gpa)), (mta, .inl (cI, 8, .inl gta)), (mla, .inl (cI, 40, .inl gla)), (msl, .inl (cI, 40, .inl gsl)), (mco, .inl (cI, 3, .inl gco)), (mke, .inl (cI, 130, .inl gke))] hpz) := by
  refine Met.ofW (cc := cX8_image) (maxL := 1) (ret := (some .int)) (by decide) rfl ?_
  intro p e s m args below meth c s₁ B hml hv
  obtain ⟨rfl, hsz, hP, hK, hD0, hN, hZ⟩ := hv
  have hx := B.exec
  have hb := B.bytes
  have hr := B.returns
  have hts := atoms_spec (ws := wsX8_image) B.pre
  have hown : s.vm.findClass RX8 = some m.cls := findClass_of_methodNamed B.named
  have hlocks := B.notSynchronized
  subst hsz
  have hD := hD0.self (sz := s.heap.size)
  have hA := zA_of hD
  have hl := lv_entry ([.ref m0]) (n := 1) (Nat.le_of_ble_eq_true rfl)
  rw [lg_entry_eq]
  generalize (lg_sl ([.ref m0]) ++ List.replicate (1 - (lg_sl ([.ref m0])).length) Slot.unset).toArray = ls at hl ⊢
  replace hl : lv_has ls 1 [(0, .ref m0)] := hl
  refine zw_begin hP hD (fun H locs hP1 hS => ?_)
  clear hP
  have hP := hP1
  clear hP1
  refine lv_aload_n hx hb dX8_image_0 rfl (lv_at hl 0 rfl) ?_
  refine lv_iconst (v := 1) hx hb dX8_image_1 (by decide) ?_
  refine va_put (D := D) (ci := 8) (v := .int 1) (ty := .boolean) (C := RX8) (T := TX8) (N := 38) hx hb hts hi_X8_image_8 tyX8 tyX8_ok nmX8 hown hK hP hD hS 0 rfl rfl 37 (by decide) (hts (.fieldLink RX8 300 "TheLiningsInItModel" "isKept" "Z") (List.mem_of_getElem? (i := 1) rfl)) (fun _ h9 => h9) rfl (tyX8_ok 37 (Nat.le_of_ble_eq_true rfl)) rfl rfl (Nat.le_of_ble_eq_true rfl) dX8_image_2 (fun H locs hP hD hS => ?_)
  have h9R := zRe (ws' := [(zMO m0 npu nte nat_ nde nto nse nhu nga nsd nfa mrf mki mpa mta mla msl mco mhe mso msi msh mce mca mwo mnu mte nba npl nen nnu nwr mwa mke mma mth mtr nra 1), (mki, .inl (cI, 8, .inl gki)), (mpa, .inl (cI, 8, .inl gpa)), (mta, .inl (cI, 8, .inl gta)), (mla, .inl (cI, 40, .inl gla)), (msl, .inl (cI, 40, .inl gsl)), (mco, .inl (cI, 3, .inl gco)), (mke, .inl (cI, 130, .inl gke))]) hP hD rfl
  clear hP hD
  obtain ⟨hP, hD⟩ := h9R
  refine lv_aload_n hx hb dX8_image_5 rfl (lv_at hl 0 rfl) ?_
  refine lv_aload_n hx hb dX8_image_6 rfl (lv_at hl 0 rfl) ?_
  refine va_get (D := D) (ci := 8) (v := .ref mke) (C := RX8) (T := TX8) (N := 38) hx hb hts hi_X8_image_8 hown hK hP 0 rfl rfl 32 (by decide) (hts (.fieldLink RX8 78 "TheLiningsInItModel" "kept" "[I") (List.mem_of_getElem? (i := 2) rfl)) (fun _ h9 => h9) rfl dX8_image_7 ?_
  refine lv_iconst (v := 0) hx hb dX8_image_10 (by decide) ?_
  have kc1 : (1 : Int32).toInt = 1 := by decide
  skip
  refine zw_Vv (As := [.ref mke, .int 0]) (rest := []) (wr := []) ⟨hx, hb, hml, hown, hts⟩ (c_M_all_f l D cI cJ cZ cP cS po m0 mrf mki mpa mta mla msl mco mhe mso msi msh mce mca mwo mnu mte mwa mke mma mth mtr (npu) (nte) (nat_) (nde) (nto) (nse) (nhu) (nga) (nsd) (nfa) (nba) (npl) (nen) (nnu) (nwr) (nra) (1) gki gpa gta gla gsl gco mke gke hy0 hy1 hy2 hy3 hy4 hy5 hy6 hy7 hy8 hy9 hy10 hy11 (by omega) (by omega) hp_gki hp_gpa hp_gta hp_gla hp_gsl hp_gco H.size) (cwV 2 hts gX8_image_X8_all rfl rfl rfl ⟨rfl, dh_X8_all⟩ ⟨Nat.le_of_ble_eq_true rfl, Nat.le_of_ble_eq_true rfl⟩) hK hN (hZ.kept hS) hP hD hS hA [0, 1, 2, 3, 4, 5, 6, 7] [] rfl rfl (by decide) (by decide) (by decide) (va_recv (q := (RX8, TX8, 38)) hK hP (ci := 8) (q0 := 0) rfl rfl) rfl hl.1 rfl (Nat.le_of_ble_eq_true rfl) dX8_image_11 ⟨Nat.le_of_ble_eq_true rfl, Nat.le_of_ble_eq_true rfl⟩ (fun u_2 H locs hr_1 hP hD hS => ?_)
  obtain ⟨q_3, rfl⟩ : ∃ z, z = u_2 := ⟨_, rfl⟩
  obtain ⟨hsr_1_0, hr_1⟩ := hr_1
  have h9R := zRe (ws' := [(zMO m0 npu nte nat_ nde nto nse nhu nga nsd nfa mrf mki mpa mta mla msl mco mhe mso msi msh mce mca mwo mnu mte nba npl nen nnu nwr mwa mke mma mth mtr nra 1), (mki, .inl (cI, 8, .inl gki)), (mpa, .inl (cI, 8, .inl gpa)), (mta, .inl (cI, 8, .inl gta)), (mla, .inl (cI, 40, .inl gla)), (msl, .inl (cI, 40, .inl gsl)), (mco, .inl (cI, 3, .inl gco)), (mke, .inl (cI, 130, .inl q_3))]) hP hD rfl
  clear hP hD
  obtain ⟨hP, hD⟩ := h9R
  refine lv_aload_n hx hb dX8_image_14 rfl (lv_at hl 0 rfl) ?_
  refine va_get (D := D) (ci := 8) (v := .int npu) (C := RX8) (T := TX8) (N := 38) hx hb hts hi_X8_image_8 hown hK hP 0 rfl rfl 0 (by decide) (hts (.fieldLink RX8 90 "TheLiningsInItModel" "pulls" "I") (List.mem_of_getElem? (i := 3) rfl)) (fun _ h9 => h9) rfl dX8_image_15 ?_
  exact W.iret (v := npu) hx hb hr (fun t ht hW => ⟨⟨npu, (q_3, 1), rfl, ⟨(show 0 ≤ (1 : Int32).toInt ∧ (1 : Int32).toInt ≤ 1 from by decide), (show zKp q_3 from by exact (zAll_kp hsr_1_0 hp_gki hp_gpa hp_gta hp_gla hp_gsl hp_gco ⟨by omega, by omega⟩ ⟨by omega, by omega⟩ ⟨by omega, by omega⟩ ⟨by omega, by omega⟩ ⟨by omega, by omega⟩)), (show (∀ j : Nat, j < 116 → q_3 j = zAll gki gpa gta gla gsl gco npu nte nat_ nde nto nse nhu nga nsd j) from by exact hsr_1_0), (show (1 : Int32).toInt = 1 ∧ (npu : Int32).toInt = npu.toInt from by exact ⟨by decide, rfl⟩), (show (q_3 107).toInt = npu.toInt ∧ (q_3 108).toInt = nte.toInt from by exact ⟨congrArg Int32.toInt ((hsr_1_0 107 (by decide)).trans rfl), congrArg Int32.toInt ((hsr_1_0 108 (by decide)).trans rfl)⟩), trivial⟩, zRet ht hP hD [0, 1, 2, 3, 4, 5, 6, 7] (by decide) rfl⟩, hS.F ht⟩) hS.2.2 dX8_image_18
set_option maxHeartbeats 4000000 in
set_option maxRecDepth 100000 in
theorem c_F_M_restore (l : Launch) (D : va_G) (cI cJ cZ cP cS : ClassId) (po : zPool) (m0 mrf mki mpa mta mla msl mco mhe mso msi msh mce mca mwo mnu mte mwa mke mma mth mtr : Nat) (npu nte nat_ nde nto nse nhu nga nsd nfa nba npl nen nnu nwr nra nik : Int32) (grf ghe gsh gki gpa gta gla gsl gco gke : Nat → Int32) (hy0 : 0 ≤ npu.toInt) (hy1 : npu.toInt ≤ 8) (hy2 : 4 ≤ nte.toInt) (hy3 : nte.toInt ≤ 40) (hy4 : 0 ≤ nat_.toInt) (hy5 : nat_.toInt ≤ 40) (hy6 : 0 ≤ nde.toInt) (hy7 : nde.toInt ≤ 24) (hy8 : 0 ≤ nhu.toInt) (hy9 : nhu.toInt ≤ 9) (hy10 : 0 ≤ nra.toInt) (hy11 : nra.toInt ≤ 2000) (hy12 : 0 ≤ nik.toInt) (hy13 : nik.toInt ≤ 1) (hHS : zHS ghe gsh) (hik : (nik.toInt = 1 → zKp gke)) (hp_ghe : zRg ghe (0) 2) (hp_gsh : zRg gsh (-1) 7) (hp_gki : zRg gki (0) 6) (hp_gpa : zRg gpa (0) 9) (hp_gta : zRg gta (0) 60) (hp_gla : zRg gla (0) 1) (hp_gsl : zRg gsl (0) 9) (hp_gco : zRg gco (0) 99) (hpz : Nat) : Met l yX8_restore wsX8_restore ({ frames := 2, cells := 0, slots := 0, locals := 49 }) (va_Pc [.ref m0] (zW D (zKT cI cJ cZ cP cS) po [(zMO m0 npu nte nat_ nde nto nse nhu nga nsd nfa mrf mki mpa mta mla msl mco mhe mso msi msh mce mca mwo mnu mte nba npl nen nnu nwr mwa mke mma mth mtr nra nik), (mrf, .inl (cI, 8, .inl grf)), (mhe, .inl (cI, 8, .inl ghe)), (msh, .inl (cI, 8, .inl gsh)), (mki, .inl (cI, 8, .inl gki)), (mpa, .inl (cI, 8, .inl gpa)), (mta, .inl (cI, 8, .inl gta)), (mla, .inl (cI, 40, .inl gla)), (msl, .inl (cI, 40, .inl gsl)), (mco, .inl (cI, 3, .inl gco)), (mke, .inl (cI, 130, .inl gke))] hpz)) (va_Qi (fun (r : Int32) (u : (Int32) × (Int32) × (Int32) × (Int32) × (Int32) × (Int32) × (Int32) × (Int32) × (Int32) × (Nat → Int32) × (Nat → Int32) × (Nat → Int32) × (Nat → Int32) × (Nat → Int32) × (Nat → Int32) × (Nat → Int32) × (Nat → Int32)) => (0 ≤ u.1.toInt ∧ u.1.toInt ≤ 8) ∧ (4 ≤ u.2.1.toInt ∧ u.2.1.toInt ≤ 40) ∧ (0 ≤ u.2.2.1.toInt ∧ u.2.2.1.toInt ≤ 40) ∧ (0 ≤ u.2.2.2.1.toInt ∧ u.2.2.2.1.toInt ≤ 24) ∧ (0 ≤ u.2.2.2.2.2.2.1.toInt ∧ u.2.2.2.2.2.2.1.toInt ≤ 9) ∧ zRg u.2.2.2.2.2.2.2.2.2.2.1 (0) 2 ∧ zRg u.2.2.2.2.2.2.2.2.2.2.2.1 (0) 6 ∧ zRg u.2.2.2.2.2.2.2.2.2.2.2.2.1 (0) 9 ∧ zRg u.2.2.2.2.2.2.2.2.2.2.2.2.2.1 (0) 60 ∧ zRg u.2.2.2.2.2.2.2.2.2.2.2.2.2.2.1 (0) 1 ∧ zRg u.2.2.2.2.2.2.2.2.2.2.2.2.2.2.2.1 (0) 9 ∧ zRg u.2.2.2.2.2.2.2.2.2.2.2.2.2.2.2.2 (0) 99 ∧ (zHS u.2.2.2.2.2.2.2.2.2.2.1 gsh) ∧ ((nik.toInt = 0 ∧ r.toInt = -6 ∧ u.1.toInt = npu.toInt ∧ u.2.1.toInt = nte.toInt ∧ u.2.2.2.2.2.2.2.2.2.2.1 = ghe) ∨ (nik.toInt ≠ 0 ∧ r.toInt = (gke 107).toInt ∧ u.1.toInt = (gke 107).toInt ∧ u.2.1.toInt = (gke 108).toInt ∧ ∀ j : Nat, j < 8 → u.2.2.2.2.2.2.2.2.2.2.1 j = (if (ghe j).toInt = 2 ∧ (gke 107).toInt ≤ (gsh j).toInt then 0 else ghe j))) ∧ ((nik.toInt = 0 ∧ u.2.2.2.2.2.2.2.2.2.2.2.1 = gki ∧ u.2.2.2.2.2.2.2.2.2.2.2.2.1 = gpa ∧ u.2.2.2.2.2.2.2.2.2.2.2.2.2.1 = gta ∧ u.2.2.2.2.2.2.2.2.2.2.2.2.2.2.1 = gla ∧ u.2.2.2.2.2.2.2.2.2.2.2.2.2.2.2.1 = gsl ∧ u.2.2.2.2.2.2.2.2.2.2.2.2.2.2.2.2 = gco ∧ u.2.2.1 = nat_ ∧ u.2.2.2.1 = nde ∧ u.2.2.2.2.1 = nto ∧ u.2.2.2.2.2.1 = nse ∧ u.2.2.2.2.2.2.1 = nhu ∧ u.2.2.2.2.2.2.2.1 = nga ∧ u.2.2.2.2.2.2.2.2.1 = nsd) ∨ (nik.toInt ≠ 0 ∧ (∀ j : Nat, j < 8 → u.2.2.2.2.2.2.2.2.2.2.2.1 j = gke (0 + j)) ∧ (∀ j : Nat, j < 8 → u.2.2.2.2.2.2.2.2.2.2.2.2.1 j = gke (8 + j)) ∧ (∀ j : Nat, j < 8 → u.2.2.2.2.2.2.2.2.2.2.2.2.2.1 j = gke (16 + j)) ∧ (∀ j : Nat, j < 40 → u.2.2.2.2.2.2.2.2.2.2.2.2.2.2.1 j = gke (24 + j)) ∧ (∀ j : Nat, j < 40 → u.2.2.2.2.2.2.2.2.2.2.2.2.2.2.2.1 j = gke (64 + j)) ∧ (∀ j : Nat, j < 3 → u.2.2.2.2.2.2.2.2.2.2.2.2.2.2.2.2 j = gke (104 + j)) ∧ u.2.2.1 = gke 109 ∧ u.2.2.2.1 = gke 110 ∧ u.2.2.2.2.1 = gke 111 ∧ u.2.2.2.2.2.1 = gke 112 ∧ u.2.2.2.2.2.2.1 = gke 113 ∧ u.2.2.2.2.2.2.2.1 = gke 114 ∧ u.2.2.2.2.2.2.2.2.1 = gke 115)) ∧ (True)) (zB D [(zMO m0 npu nte nat_ nde nto nse nhu nga nsd nfa mrf mki mpa mta mla msl mco mhe mso msi msh mce mca mwo mnu mte nba npl nen nnu nwr mwa mke mma mth mtr nra nik), (mrf, .inl (cI, 8, .inl grf)), (mhe, .inl (cI, 8, .inl ghe)), (msh, .inl (cI, 8, .inl gsh)), (mki, .inl (cI, 8, .inl gki)), (mpa, .inl (cI, 8, .inl gpa)), (mta, .inl (cI, 8, .inl gta)), (mla, .inl (cI, 40, .inl gla)), (msl, .inl (cI, 40, .inl gsl)), (mco, .inl (cI, 3, .inl gco)), (mke, .inl (cI, 130, .inl gke))] hpz (fun (u : (Int32) × (Int32) × (Int32) × (Int32) × (Int32) × (Int32) × (Int32) × (Int32) × (Int32) × (Nat → Int32) × (Nat → Int32) × (Nat → Int32) × (Nat → Int32) × (Nat → Int32) × (Nat → Int32) × (Nat → Int32) × (Nat → Int32)) => [(zMO m0 u.1 u.2.1 u.2.2.1 u.2.2.2.1 u.2.2.2.2.1 u.2.2.2.2.2.1 u.2.2.2.2.2.2.1 u.2.2.2.2.2.2.2.1 u.2.2.2.2.2.2.2.2.1 nfa mrf mki mpa mta mla msl mco mhe mso msi msh mce mca mwo mnu mte nba npl nen nnu nwr mwa mke mma mth mtr nra nik), (mrf, .inl (cI, 8, .inl u.2.2.2.2.2.2.2.2.2.1)), (mhe, .inl (cI, 8, .inl u.2.2.2.2.2.2.2.2.2.2.1)), (msh, .inl (cI, 8, .inl gsh)), (mki, .inl (cI, 8, .inl u.2.2.2.2.2.2.2.2.2.2.2.1)), (mpa, .inl (cI, 8, .inl u.2.2.2.2.2.2.2.2.2.2.2.2.1)), (mta, .inl (cI, 8, .inl u.2.2.2.2.2.2.2.2.2.2.2.2.2.1)), (mla, .inl (cI, 40, .inl u.2.2.2.2.2.2.2.2.2.2.2.2.2.2.1)), (msl, .inl (cI, 40, .inl u.2.2.2.2.2.2.2.2.2.2.2.2.2.2.2.1)), (mco, .inl (cI, 3, .inl u.2.2.2.2.2.2.2.2.2.2.2.2.2.2.2.2)), (mke, .inl (cI, 130, .inl gke))])) (va_A [(zMO m0 npu nte nat_ nde nto nse nhu nga nsd nfa mrf mki mpa mta mla msl mco mhe mso msi msh mce mca mwo mnu mte nba npl nen nnu nwr mwa mke mma mth mtr nra nik), (mrf, .inl (cI, 8, .inl grf)), (mhe, .inl (cI, 8, .inl ghe)), (msh, .inl (cI, 8, .inl gsh)), (mki, .inl (cI, 8, .inl gki)), (mpa, .inl (cI, 8, .inl gpa)), (mta, .inl (cI, 8, .inl gta)), (mla, .inl (cI, 40, .inl gla)), (msl, .inl (cI, 40, .inl gsl)), (mco, .inl (cI, 3, .inl gco)), (mke, .inl (cI, 130, .inl gke))] hpz)) 0 0 (va_A [(zMO m0 npu nte nat_ nde nto nse nhu nga nsd nfa mrf mki mpa mta mla msl mco mhe mso msi msh mce mca mwo mnu mte nba npl nen nnu nwr mwa mke mma mth mtr nra nik), (mrf, .inl (cI, 8, .inl grf)), (mhe, .inl (cI, 8, .inl ghe)), (msh, .inl (cI, 8, .inl gsh)), (mki, .inl (cI, 8, .inl gki)), (mpa, .inl (cI, 8, .inl gpa)), (mta, .inl (cI, 8, .inl gta)), (mla, .inl (cI, 40, .inl gla)), (msl, .inl (cI, 40, .inl gsl)), (mco, .inl (cI, 3, .inl gco)), (mke, .inl (cI, 130, .inl gke))] hpz) := by
  refine Met.ofW (cc := cX8_restore) (maxL := 2) (ret := (some .int)) (by decide) rfl ?_
  intro p e s m args below meth c s₁ B hml hv
  obtain ⟨rfl, hsz, hP, hK, hD0, hN, hZ⟩ := hv
  have hx := B.exec
  have hb := B.bytes
  have hr := B.returns
  have hts := atoms_spec (ws := wsX8_restore) B.pre
  have hown : s.vm.findClass RX8 = some m.cls := findClass_of_methodNamed B.named
  have hlocks := B.notSynchronized
  subst hsz
  have hD := hD0.self (sz := s.heap.size)
  have hA := zA_of hD
  have hl := lv_entry ([.ref m0]) (n := 2) (Nat.le_of_ble_eq_true rfl)
  rw [lg_entry_eq]
  generalize (lg_sl ([.ref m0]) ++ List.replicate (2 - (lg_sl ([.ref m0])).length) Slot.unset).toArray = ls at hl ⊢
  replace hl : lv_has ls 2 [(0, .ref m0)] := hl
  refine zw_begin hP hD (fun H locs hP1 hS => ?_)
  clear hP
  have hP := hP1
  clear hP1
  refine lv_aload_n hx hb dX8_restore_0 rfl (lv_at hl 0 rfl) ?_
  refine va_get (D := D) (ci := 8) (v := .int nik) (C := RX8) (T := TX8) (N := 38) hx hb hts hi_X8_restore_8 hown hK hP 0 rfl rfl 37 (by decide) (hts (.fieldLink RX8 300 "TheLiningsInItModel" "isKept" "Z") (List.mem_of_getElem? (i := 1) rfl)) (fun _ h9 => h9) rfl dX8_restore_1 ?_
  refine lv_if_ne (tgt := 14) hx hb dX8_restore_4 (by decide) (fun c_1 => ?_) (fun c_1 => ?_)
  · have fc_1 : nik.toInt ≠ 0 := zf_ne c_1 rfl (by decide)
    refine lv_aload_n hx hb dX8_restore_14 rfl (lv_at hl 0 rfl) ?_
    refine lv_aload_n hx hb dX8_restore_15 rfl (lv_at hl 0 rfl) ?_
    refine va_get (D := D) (ci := 8) (v := .ref mke) (C := RX8) (T := TX8) (N := 38) hx hb hts hi_X8_restore_8 hown hK hP 0 rfl rfl 32 (by decide) (hts (.fieldLink RX8 78 "TheLiningsInItModel" "kept" "[I") (List.mem_of_getElem? (i := 2) rfl)) (fun _ h9 => h9) rfl dX8_restore_16 ?_
    refine lv_iconst (v := 1) hx hb dX8_restore_19 (by decide) ?_
    skip
    refine zw_Vv (As := [.ref mke, .int 1]) (rest := []) (wr := [(mrf, .inl (cI, 8, .inl grf)), (mhe, .inl (cI, 8, .inl ghe)), (msh, .inl (cI, 8, .inl gsh))]) ⟨hx, hb, hml, hown, hts⟩ (c_M_all_b l D cI cJ cZ cP cS po m0 mrf mki mpa mta mla msl mco mhe mso msi msh mce mca mwo mnu mte mwa mke mma mth mtr (npu) (nte) (nat_) (nde) (nto) (nse) (nhu) (nga) (nsd) (nfa) (nba) (npl) (nen) (nnu) (nwr) (nra) (nik) gki gpa gta gla gsl gco mke gke hy0 hy1 hy2 hy3 hy4 hy5 hy6 hy7 hy8 hy9 hy10 hy11 hy12 hy13 (hik (by omega)) hp_gki hp_gpa hp_gta hp_gla hp_gsl hp_gco H.size) (cwV 2 hts gX8_restore_X8_all rfl rfl rfl ⟨rfl, dh_X8_all⟩ ⟨Nat.le_of_ble_eq_true rfl, Nat.le_of_ble_eq_true rfl⟩) hK hN (hZ.kept hS) hP hD hS hA [0, 4, 5, 6, 7, 8, 9, 10] [1, 2, 3] rfl rfl (by decide) (by decide) (by decide) (va_recv (q := (RX8, TX8, 38)) hK hP (ci := 8) (q0 := 0) rfl rfl) rfl hl.1 rfl (Nat.le_of_ble_eq_true rfl) dX8_restore_20 ⟨Nat.le_of_ble_eq_true rfl, Nat.le_of_ble_eq_true rfl⟩ (fun u_3 H locs hr_2 hP hD hS => ?_)
    obtain ⟨q_4, q_5, q_6, q_7, q_8, q_9, q_10, q_11, q_12, q_13, q_14, q_15, q_16, q_17, q_18⟩ := u_3
    try dsimp only at hr_2
    obtain ⟨hbq_4, hbq_5, hbq_6, hbq_7, hbq_10, hpq_13, hpq_14, hpq_15, hpq_16, hpq_17, hpq_18, hsr_2_0, hsr_2_1, hsr_2_2, hsr_2_3, hsr_2_4, hsr_2_5, hsr_2_6, hr_2⟩ := hr_2
    have h9R := zRe (ws' := [(mrf, .inl (cI, 8, .inl grf)), (mhe, .inl (cI, 8, .inl ghe)), (msh, .inl (cI, 8, .inl gsh)), (zMO m0 q_4 q_5 q_6 q_7 q_8 q_9 q_10 q_11 q_12 nfa mrf mki mpa mta mla msl mco mhe mso msi msh mce mca mwo mnu mte nba npl nen nnu nwr mwa mke mma mth mtr nra nik), (mki, .inl (cI, 8, .inl q_13)), (mpa, .inl (cI, 8, .inl q_14)), (mta, .inl (cI, 8, .inl q_15)), (mla, .inl (cI, 40, .inl q_16)), (msl, .inl (cI, 40, .inl q_17)), (mco, .inl (cI, 3, .inl q_18)), (mke, .inl (cI, 130, .inl gke))]) hP hD rfl
    clear hP hD
    obtain ⟨hP, hD⟩ := h9R
    refine lv_iconst (v := 0) hx hb dX8_restore_23 (by decide) ?_
    refine lv_istore_n (lv' := [(1, .int 0), (0, .ref m0)]) hx hb dX8_restore_24 rfl hl (by decide) rfl (fun ls hl => ?_)
    obtain ⟨i_25, hi_25⟩ : ∃ i : Int32, i = 0 := ⟨_, rfl⟩
    replace hl : lv_has ls 2 [(1, .int i_25), (0, .ref m0)] := by rw [hi_25]; exact lv_sub hl [0, 1] rfl
    have h1i_25 : i_25.toInt = 0 := by rw [hi_25]; decide
    obtain ⟨nfu, hni_25⟩ : ∃ nq9 : Nat, 8 ≤ i_25.toInt + (nq9 : Int) := ⟨((8 : Int) - 0).toNat, by omega⟩
    have hloi_25 : 0 ≤ i_25.toInt := by omega
    obtain ⟨g_19, hg_19⟩ : ∃ g : Nat → Int32, g = ghe := ⟨_, rfl⟩
    have hpg_19 : zRg g_19 (0) 2 := by rw [hg_19]; exact hp_ghe
    replace hP : va_P D vwCl [(mrf, .inl (cI, 8, .inl grf)), (mhe, .inl (cI, 8, .inl g_19)), (msh, .inl (cI, 8, .inl gsh)), (zMO m0 q_4 q_5 q_6 q_7 q_8 q_9 q_10 q_11 q_12 nfa mrf mki mpa mta mla msl mco mhe mso msi msh mce mca mwo mnu mte nba npl nen nnu nwr mwa mke mma mth mtr nra nik), (mki, .inl (cI, 8, .inl q_13)), (mpa, .inl (cI, 8, .inl q_14)), (mta, .inl (cI, 8, .inl q_15)), (mla, .inl (cI, 40, .inl q_16)), (msl, .inl (cI, 40, .inl q_17)), (mco, .inl (cI, 3, .inl q_18)), (mke, .inl (cI, 130, .inl gke))] H := by rw [hg_19]; exact hP
    replace hD : va_D (va_A [(zMO m0 npu nte nat_ nde nto nse nhu nga nsd nfa mrf mki mpa mta mla msl mco mhe mso msi msh mce mca mwo mnu mte nba npl nen nnu nwr mwa mke mma mth mtr nra nik), (mrf, .inl (cI, 8, .inl grf)), (mhe, .inl (cI, 8, .inl ghe)), (msh, .inl (cI, 8, .inl gsh)), (mki, .inl (cI, 8, .inl gki)), (mpa, .inl (cI, 8, .inl gpa)), (mta, .inl (cI, 8, .inl gta)), (mla, .inl (cI, 40, .inl gla)), (msl, .inl (cI, 40, .inl gsl)), (mco, .inl (cI, 3, .inl gco)), (mke, .inl (cI, 130, .inl gke))] s.heap.size) [(mrf, .inl (cI, 8, .inl grf)), (mhe, .inl (cI, 8, .inl g_19)), (msh, .inl (cI, 8, .inl gsh)), (zMO m0 q_4 q_5 q_6 q_7 q_8 q_9 q_10 q_11 q_12 nfa mrf mki mpa mta mla msl mco mhe mso msi msh mce mca mwo mnu mte nba npl nen nnu nwr mwa mke mma mth mtr nra nik), (mki, .inl (cI, 8, .inl q_13)), (mpa, .inl (cI, 8, .inl q_14)), (mta, .inl (cI, 8, .inl q_15)), (mla, .inl (cI, 40, .inl q_16)), (msl, .inl (cI, 40, .inl q_17)), (mco, .inl (cI, 3, .inl q_18)), (mke, .inl (cI, 130, .inl gke))] := by rw [hg_19]; exact hD
    have hvi_25_0 : (∀ j : Nat, (g_19 j).toInt = 2 → (ghe j).toInt = 2) := by
      (try rw [hi_25]); (try rw [hg_19]); exact fun j hj => hj
    have hvi_25_1 : (∀ j : Nat, g_19 j = (if (j : Int) < i_25.toInt ∧ (ghe j).toInt = 2 ∧ (q_4 : Int32).toInt ≤ (gsh j).toInt then 0 else ghe j)) := by
      (try rw [hi_25]); (try rw [hg_19]); (intro j; rw [if_neg (by have k0 : (0 : Int32).toInt = 0 := (by decide); omega)])
    have hvi_25_2 : i_25.toInt ≤ 8 := by
      (try rw [hi_25]); (try rw [hg_19]); first | omega | decide
    clear h1i_25 hi_25 hg_19
    skip
    revert hni_25
    revert hloi_25
    revert hvi_25_2
    revert hvi_25_1
    revert hvi_25_0
    revert hpg_19
    revert hl
    revert hS
    revert hD
    revert hP
    revert ls
    revert locs
    revert H
    revert g_19
    revert i_25
    induction nfu with
    | zero =>
      intro i_25 g_19 H locs ls hP hD hS hl hpg_19 hvi_25_0 hvi_25_1 hvi_25_2 hloi_25 hni_25
      have hzi_25 : 8 ≤ i_25.toInt := by omega
      refine lv_iload_n hx hb dX8_restore_25 rfl (lv_at hl 0 rfl) ?_
      refine lv_bipush (v := 8) hx hb dX8_restore_26 (by decide) ?_
      refine lv_icmp_ge (tgt := 67) hx hb dX8_restore_28 (by decide) (fun c_20 => ?_) (fun c_20 => ?_)
      · have fc_20 : 8 ≤ i_25.toInt := zf_le c_20 (by decide) rfl
        refine lv_aload_n hx hb dX8_restore_67 rfl (lv_at hl 1 rfl) ?_
        refine va_get (D := D) (ci := 8) (v := .int q_4) (C := RX8) (T := TX8) (N := 38) hx hb hts hi_X8_restore_8 hown hK hP 3 rfl rfl 0 (by decide) (hts (.fieldLink RX8 90 "TheLiningsInItModel" "pulls" "I") (List.mem_of_getElem? (i := 5) rfl)) (fun _ h9 => h9) rfl dX8_restore_68 ?_
        exact W.iret (v := q_4) hx hb hr (fun t ht hW => ⟨⟨q_4, (q_4, q_5, q_6, q_7, q_8, q_9, q_10, q_11, q_12, grf, g_19, q_13, q_14, q_15, q_16, q_17, q_18), rfl, ⟨(show 0 ≤ q_4.toInt ∧ q_4.toInt ≤ 8 from hbq_4), (show 4 ≤ q_5.toInt ∧ q_5.toInt ≤ 40 from hbq_5), (show 0 ≤ q_6.toInt ∧ q_6.toInt ≤ 40 from hbq_6), (show 0 ≤ q_7.toInt ∧ q_7.toInt ≤ 24 from hbq_7), (show 0 ≤ q_10.toInt ∧ q_10.toInt ≤ 9 from hbq_10), hpg_19, hpq_13, hpq_14, hpq_15, hpq_16, hpq_17, hpq_18, (show zHS g_19 gsh from by (intro j hj; exact hHS j (hvi_25_0 j hj))), (show (nik.toInt = 0 ∧ (q_4 : Int32).toInt = -6 ∧ q_4.toInt = npu.toInt ∧ q_5.toInt = nte.toInt ∧ g_19 = ghe) ∨ (nik.toInt ≠ 0 ∧ (q_4 : Int32).toInt = (gke 107).toInt ∧ q_4.toInt = (gke 107).toInt ∧ q_5.toInt = (gke 108).toInt ∧ ∀ j : Nat, j < 8 → g_19 j = (if (ghe j).toInt = 2 ∧ (gke 107).toInt ≤ (gsh j).toInt then 0 else ghe j)) from by (have hq := hsr_2_6; have h9 : i_25.toInt = 8 := (by omega); refine Or.inr ⟨by omega, by rw [← hq.1], congrArg Int32.toInt hq.1, congrArg Int32.toInt hq.2.1, fun j hj => ?_⟩; have z := hvi_25_1 j; rw [z, ← hq.1]; by_cases h5 : (ghe j).toInt = 2 ∧ (q_4 : Int32).toInt ≤ (gsh j).toInt; (rw [if_pos ⟨by omega, h5⟩, if_pos h5]); (rw [if_neg (fun q => h5 q.2), if_neg h5]))), (show (nik.toInt = 0 ∧ q_13 = gki ∧ q_14 = gpa ∧ q_15 = gta ∧ q_16 = gla ∧ q_17 = gsl ∧ q_18 = gco ∧ q_6 = nat_ ∧ q_7 = nde ∧ q_8 = nto ∧ q_9 = nse ∧ q_10 = nhu ∧ q_11 = nga ∧ q_12 = nsd) ∨ (nik.toInt ≠ 0 ∧ (∀ j : Nat, j < 8 → q_13 j = gke (0 + j)) ∧ (∀ j : Nat, j < 8 → q_14 j = gke (8 + j)) ∧ (∀ j : Nat, j < 8 → q_15 j = gke (16 + j)) ∧ (∀ j : Nat, j < 40 → q_16 j = gke (24 + j)) ∧ (∀ j : Nat, j < 40 → q_17 j = gke (64 + j)) ∧ (∀ j : Nat, j < 3 → q_18 j = gke (104 + j)) ∧ q_6 = gke 109 ∧ q_7 = gke 110 ∧ q_8 = gke 111 ∧ q_9 = gke 112 ∧ q_10 = gke 113 ∧ q_11 = gke 114 ∧ q_12 = gke 115) from by (obtain ⟨y0, y1, y2, y3, y4, y5, y6, y7, y8⟩ := hsr_2_6; exact Or.inr ⟨by omega, hsr_2_0, hsr_2_1, hsr_2_2, hsr_2_3, hsr_2_4, hsr_2_5, y2, y3, y4, y5, y6, y7, y8⟩)), trivial⟩, zRet ht hP hD [3, 0, 1, 2, 4, 5, 6, 7, 8, 9, 10] (by decide) rfl⟩, hS.F ht⟩) hS.2.2 dX8_restore_71
      · exfalso; have fc_20 : i_25.toInt < 8 := zf_nle c_20 (by decide) rfl; omega
    | succ nfu ih =>
      intro i_25 g_19 H locs ls hP hD hS hl hpg_19 hvi_25_0 hvi_25_1 hvi_25_2 hloi_25 hni_25
      refine lv_iload_n hx hb dX8_restore_25 rfl (lv_at hl 0 rfl) ?_
      refine lv_bipush (v := 8) hx hb dX8_restore_26 (by decide) ?_
      refine lv_icmp_ge (tgt := 67) hx hb dX8_restore_28 (by decide) (fun c_21 => ?_) (fun c_21 => ?_)
      · have fc_21 : 8 ≤ i_25.toInt := zf_le c_21 (by decide) rfl
        refine lv_aload_n hx hb dX8_restore_67 rfl (lv_at hl 1 rfl) ?_
        refine va_get (D := D) (ci := 8) (v := .int q_4) (C := RX8) (T := TX8) (N := 38) hx hb hts hi_X8_restore_8 hown hK hP 3 rfl rfl 0 (by decide) (hts (.fieldLink RX8 90 "TheLiningsInItModel" "pulls" "I") (List.mem_of_getElem? (i := 5) rfl)) (fun _ h9 => h9) rfl dX8_restore_68 ?_
        exact W.iret (v := q_4) hx hb hr (fun t ht hW => ⟨⟨q_4, (q_4, q_5, q_6, q_7, q_8, q_9, q_10, q_11, q_12, grf, g_19, q_13, q_14, q_15, q_16, q_17, q_18), rfl, ⟨(show 0 ≤ q_4.toInt ∧ q_4.toInt ≤ 8 from hbq_4), (show 4 ≤ q_5.toInt ∧ q_5.toInt ≤ 40 from hbq_5), (show 0 ≤ q_6.toInt ∧ q_6.toInt ≤ 40 from hbq_6), (show 0 ≤ q_7.toInt ∧ q_7.toInt ≤ 24 from hbq_7), (show 0 ≤ q_10.toInt ∧ q_10.toInt ≤ 9 from hbq_10), hpg_19, hpq_13, hpq_14, hpq_15, hpq_16, hpq_17, hpq_18, (show zHS g_19 gsh from by (intro j hj; exact hHS j (hvi_25_0 j hj))), (show (nik.toInt = 0 ∧ (q_4 : Int32).toInt = -6 ∧ q_4.toInt = npu.toInt ∧ q_5.toInt = nte.toInt ∧ g_19 = ghe) ∨ (nik.toInt ≠ 0 ∧ (q_4 : Int32).toInt = (gke 107).toInt ∧ q_4.toInt = (gke 107).toInt ∧ q_5.toInt = (gke 108).toInt ∧ ∀ j : Nat, j < 8 → g_19 j = (if (ghe j).toInt = 2 ∧ (gke 107).toInt ≤ (gsh j).toInt then 0 else ghe j)) from by (have hq := hsr_2_6; have h9 : i_25.toInt = 8 := (by omega); refine Or.inr ⟨by omega, by rw [← hq.1], congrArg Int32.toInt hq.1, congrArg Int32.toInt hq.2.1, fun j hj => ?_⟩; have z := hvi_25_1 j; rw [z, ← hq.1]; by_cases h5 : (ghe j).toInt = 2 ∧ (q_4 : Int32).toInt ≤ (gsh j).toInt; (rw [if_pos ⟨by omega, h5⟩, if_pos h5]); (rw [if_neg (fun q => h5 q.2), if_neg h5]))), (show (nik.toInt = 0 ∧ q_13 = gki ∧ q_14 = gpa ∧ q_15 = gta ∧ q_16 = gla ∧ q_17 = gsl ∧ q_18 = gco ∧ q_6 = nat_ ∧ q_7 = nde ∧ q_8 = nto ∧ q_9 = nse ∧ q_10 = nhu ∧ q_11 = nga ∧ q_12 = nsd) ∨ (nik.toInt ≠ 0 ∧ (∀ j : Nat, j < 8 → q_13 j = gke (0 + j)) ∧ (∀ j : Nat, j < 8 → q_14 j = gke (8 + j)) ∧ (∀ j : Nat, j < 8 → q_15 j = gke (16 + j)) ∧ (∀ j : Nat, j < 40 → q_16 j = gke (24 + j)) ∧ (∀ j : Nat, j < 40 → q_17 j = gke (64 + j)) ∧ (∀ j : Nat, j < 3 → q_18 j = gke (104 + j)) ∧ q_6 = gke 109 ∧ q_7 = gke 110 ∧ q_8 = gke 111 ∧ q_9 = gke 112 ∧ q_10 = gke 113 ∧ q_11 = gke 114 ∧ q_12 = gke 115) from by (obtain ⟨y0, y1, y2, y3, y4, y5, y6, y7, y8⟩ := hsr_2_6; exact Or.inr ⟨by omega, hsr_2_0, hsr_2_1, hsr_2_2, hsr_2_3, hsr_2_4, hsr_2_5, y2, y3, y4, y5, y6, y7, y8⟩)), trivial⟩, zRet ht hP hD [3, 0, 1, 2, 4, 5, 6, 7, 8, 9, 10] (by decide) rfl⟩, hS.F ht⟩) hS.2.2 dX8_restore_71
      · have fc_21 : i_25.toInt < 8 := zf_nle c_21 (by decide) rfl
        refine lv_aload_n hx hb dX8_restore_31 rfl (lv_at hl 1 rfl) ?_
        refine va_get (D := D) (ci := 8) (v := .ref mhe) (C := RX8) (T := TX8) (N := 38) hx hb hts hi_X8_restore_8 hown hK hP 3 rfl rfl 17 (by decide) (hts (.fieldLink RX8 47 "TheLiningsInItModel" "held" "[I") (List.mem_of_getElem? (i := 3) rfl)) (fun _ h9 => h9) rfl dX8_restore_32 ?_
        refine lv_iload_n hx hb dX8_restore_35 rfl (lv_at hl 0 rfl) ?_
        refine va_iald hx hb hK hP 1 0 rfl rfl (zf_in (by omega) (by omega)) dX8_restore_36 ?_
        refine lv_topi (fun x_22 ex_22 => ?_)
        have bx_22 : 0 ≤ x_22.toInt ∧ x_22.toInt ≤ 2 := by rw [ex_22]; exact hpg_19 _
        refine lv_iconst (v := 2) hx hb dX8_restore_37 (by decide) ?_
        refine lv_icmp_ne (tgt := 61) hx hb dX8_restore_38 (by decide) (fun c_23 => ?_) (fun c_23 => ?_)
        · have fc_23 : x_22.toInt ≠ 2 := zf_ne c_23 rfl (by decide)
          obtain ⟨x_24, ex_24⟩ : ∃ y : Int32, y = i_25 + 1 := ⟨_, rfl⟩
          have qx_24 : x_24.toInt = i_25.toInt + 1 := dw_incK ex_24 fc_21 (by decide)
          refine lv_iinc (v := x_24) (lv' := [(1, .int x_24), (0, .ref m0)]) hx hb dX8_restore_61 hl (k := 0) rfl ex_24.symm (by decide) rfl (fun ls hl => ?_)
          refine lv_goto (tgt := 25) hx hb dX8_restore_64 (by decide) ?_
          exact ih x_24 (g_19) _ _ _ (hP.sub [0, 1, 2, 3, 4, 5, 6, 7, 8, 9, 10] rfl) (hD.sub [0, 1, 2, 3, 4, 5, 6, 7, 8, 9, 10] (by decide) rfl) hS (lv_sub hl [0, 1] rfl) hpg_19 (show (∀ j : Nat, (g_19 j).toInt = 2 → (ghe j).toInt = 2) from by exact hvi_25_0) (show (∀ j : Nat, g_19 j = (if (j : Int) < x_24.toInt ∧ (ghe j).toInt = 2 ∧ (q_4 : Int32).toInt ≤ (gsh j).toInt then 0 else ghe j)) from by exact zRst_S hvi_25_1 (by omega) ex_22 (by omega) (by first | exact Or.inl ⟨rfl, Or.inl (by omega)⟩)) (show x_24.toInt ≤ 8 from by omega) (dw_lo hloi_25 qx_24) (dw_hn hni_25 qx_24)
        · have fc_23 : x_22.toInt = 2 := zf_eq c_23 rfl (by decide)
          refine lv_aload_n hx hb dX8_restore_41 rfl (lv_at hl 1 rfl) ?_
          refine va_get (D := D) (ci := 8) (v := .ref msh) (C := RX8) (T := TX8) (N := 38) hx hb hts hi_X8_restore_8 hown hK hP 3 rfl rfl 20 (by decide) (hts (.fieldLink RX8 56 "TheLiningsInItModel" "shown" "[I") (List.mem_of_getElem? (i := 4) rfl)) (fun _ h9 => h9) rfl dX8_restore_42 ?_
          refine lv_iload_n hx hb dX8_restore_45 rfl (lv_at hl 0 rfl) ?_
          refine va_iald hx hb hK hP 2 0 rfl rfl (zf_in (by omega) (by omega)) dX8_restore_46 ?_
          refine lv_topi (fun x_25 ex_25 => ?_)
          have bx_25 : -1 ≤ x_25.toInt ∧ x_25.toInt ≤ 7 := by rw [ex_25]; exact hp_gsh _
          refine lv_aload_n hx hb dX8_restore_47 rfl (lv_at hl 1 rfl) ?_
          refine va_get (D := D) (ci := 8) (v := .int q_4) (C := RX8) (T := TX8) (N := 38) hx hb hts hi_X8_restore_8 hown hK hP 3 rfl rfl 0 (by decide) (hts (.fieldLink RX8 90 "TheLiningsInItModel" "pulls" "I") (List.mem_of_getElem? (i := 5) rfl)) (fun _ h9 => h9) rfl dX8_restore_48 ?_
          refine lv_icmp_lt (tgt := 61) hx hb dX8_restore_51 (by decide) (fun c_26 => ?_) (fun c_26 => ?_)
          · have fc_26 : x_25.toInt < q_4.toInt := zf_lt c_26 rfl rfl
            obtain ⟨x_27, ex_27⟩ : ∃ y : Int32, y = i_25 + 1 := ⟨_, rfl⟩
            have qx_27 : x_27.toInt = i_25.toInt + 1 := dw_incK ex_27 fc_21 (by decide)
            refine lv_iinc (v := x_27) (lv' := [(1, .int x_27), (0, .ref m0)]) hx hb dX8_restore_61 hl (k := 0) rfl ex_27.symm (by decide) rfl (fun ls hl => ?_)
            refine lv_goto (tgt := 25) hx hb dX8_restore_64 (by decide) ?_
            exact ih x_27 (g_19) _ _ _ (hP.sub [0, 1, 2, 3, 4, 5, 6, 7, 8, 9, 10] rfl) (hD.sub [0, 1, 2, 3, 4, 5, 6, 7, 8, 9, 10] (by decide) rfl) hS (lv_sub hl [0, 1] rfl) hpg_19 (show (∀ j : Nat, (g_19 j).toInt = 2 → (ghe j).toInt = 2) from by exact hvi_25_0) (show (∀ j : Nat, g_19 j = (if (j : Int) < x_27.toInt ∧ (ghe j).toInt = 2 ∧ (q_4 : Int32).toInt ≤ (gsh j).toInt then 0 else ghe j)) from by exact zRst_S hvi_25_1 (by omega) ex_22 (by omega) (by first | exact Or.inl ⟨rfl, Or.inl (by omega)⟩ | exact Or.inl ⟨rfl, Or.inr (by rw [← ex_25]; omega)⟩)) (show x_27.toInt ≤ 8 from by omega) (dw_lo hloi_25 qx_27) (dw_hn hni_25 qx_27)
          · have fc_26 : q_4.toInt ≤ x_25.toInt := zf_nlt c_26 rfl rfl
            refine lv_aload_n hx hb dX8_restore_54 rfl (lv_at hl 1 rfl) ?_
            refine va_get (D := D) (ci := 8) (v := .ref mhe) (C := RX8) (T := TX8) (N := 38) hx hb hts hi_X8_restore_8 hown hK hP 3 rfl rfl 17 (by decide) (hts (.fieldLink RX8 47 "TheLiningsInItModel" "held" "[I") (List.mem_of_getElem? (i := 3) rfl)) (fun _ h9 => h9) rfl dX8_restore_55 ?_
            refine lv_iload_n hx hb dX8_restore_58 rfl (lv_at hl 0 rfl) ?_
            refine lv_iconst (v := 0) hx hb dX8_restore_59 (by decide) ?_
            refine va_iast hx hb hK hP hD hS 1 0 rfl rfl (zf_in (by omega) (by omega)) dX8_restore_60 (fun H locs hP hD hS => ?_)
            have hpg_28 : zRg (upd g_19 i_25.toNatClampNeg 0) (0) 2 := zRg_upd hpg_19 (by decide) (by decide)
            obtain ⟨g_28, hg_28⟩ : ∃ g : Nat → Int32, g = upd g_19 i_25.toNatClampNeg 0 := ⟨_, rfl⟩
            rw [← hg_28] at hP hD hpg_28
            have h9R := zRe (ws' := [(mrf, .inl (cI, 8, .inl grf)), (mhe, .inl (cI, 8, .inl g_28)), (msh, .inl (cI, 8, .inl gsh)), (zMO m0 q_4 q_5 q_6 q_7 q_8 q_9 q_10 q_11 q_12 nfa mrf mki mpa mta mla msl mco mhe mso msi msh mce mca mwo mnu mte nba npl nen nnu nwr mwa mke mma mth mtr nra nik), (mki, .inl (cI, 8, .inl q_13)), (mpa, .inl (cI, 8, .inl q_14)), (mta, .inl (cI, 8, .inl q_15)), (mla, .inl (cI, 40, .inl q_16)), (msl, .inl (cI, 40, .inl q_17)), (mco, .inl (cI, 3, .inl q_18)), (mke, .inl (cI, 130, .inl gke))]) hP hD rfl
            clear hP hD
            obtain ⟨hP, hD⟩ := h9R
            obtain ⟨x_29, ex_29⟩ : ∃ y : Int32, y = i_25 + 1 := ⟨_, rfl⟩
            have qx_29 : x_29.toInt = i_25.toInt + 1 := dw_incK ex_29 fc_21 (by decide)
            refine lv_iinc (v := x_29) (lv' := [(1, .int x_29), (0, .ref m0)]) hx hb dX8_restore_61 hl (k := 0) rfl ex_29.symm (by decide) rfl (fun ls hl => ?_)
            refine lv_goto (tgt := 25) hx hb dX8_restore_64 (by decide) ?_
            exact ih x_29 (g_28) _ _ _ (hP.sub [0, 1, 2, 3, 4, 5, 6, 7, 8, 9, 10] rfl) (hD.sub [0, 1, 2, 3, 4, 5, 6, 7, 8, 9, 10] (by decide) rfl) hS (lv_sub hl [0, 1] rfl) hpg_28 (show (∀ j : Nat, (g_28 j).toInt = 2 → (ghe j).toInt = 2) from by (intro j hj; rw [hg_28] at hj; simp only [upd] at hj; exact (Classical.em (j = i_25.toNatClampNeg)).elim (fun e9 => by (rw [if_pos e9] at hj; exact absurd hj (by decide))) (fun e9 => by (rw [if_neg e9] at hj; exact hvi_25_0 j hj)))) (show (∀ j : Nat, g_28 j = (if (j : Int) < x_29.toInt ∧ (ghe j).toInt = 2 ∧ (q_4 : Int32).toInt ≤ (gsh j).toInt then 0 else ghe j)) from by exact zRst_S hvi_25_1 (by omega) ex_22 (by omega) (by first | exact Or.inr ⟨hg_28, by omega, by rw [← ex_25]; omega⟩)) (show x_29.toInt ≤ 8 from by omega) (dw_lo hloi_25 qx_29) (dw_hn hni_25 qx_29)
  · have fc_1 : nik.toInt = 0 := zf_eq c_1 rfl (by decide)
    refine lv_aload_n hx hb dX8_restore_7 rfl (lv_at hl 0 rfl) ?_
    refine lv_bipush (v := (-6)) hx hb dX8_restore_8 (by decide) ?_
    skip
    refine zw_V (As := [.int (-6)]) (rest := []) (wr := [(mhe, .inl (cI, 8, .inl ghe)), (msh, .inl (cI, 8, .inl gsh)), (mki, .inl (cI, 8, .inl gki)), (mpa, .inl (cI, 8, .inl gpa)), (mta, .inl (cI, 8, .inl gta)), (mla, .inl (cI, 40, .inl gla)), (msl, .inl (cI, 40, .inl gsl)), (mco, .inl (cI, 3, .inl gco)), (mke, .inl (cI, 130, .inl gke))]) ⟨hx, hb, hml, hown, hts⟩ (c_M_no_6 l D cI cJ cZ cP cS po m0 mrf mki mpa mta mla msl mco mhe mso msi msh mce mca mwo mnu mte mwa mke mma mth mtr (npu) (nte) (nat_) (nde) (nto) (nse) (nhu) (nga) (nsd) (nfa) (nba) (npl) (nen) (nnu) (nwr) (nra) (nik) grf hy0 hy1 hy2 hy3 hy4 hy5 hy6 hy7 hy8 hy9 hy10 hy11 hy12 hy13 H.size) (cwV 1 hts gX8_restore_X8_no rfl rfl rfl ⟨rfl, dh_X8_no⟩ ⟨Nat.le_of_ble_eq_true rfl, Nat.le_of_ble_eq_true rfl⟩) hK hN (hZ.kept hS) hP hD hS hA [0, 1] [2, 3, 4, 5, 6, 7, 8, 9, 10] rfl rfl (by decide) (by decide) (by decide) (va_recv (q := (RX8, TX8, 38)) hK hP (ci := 8) (q0 := 0) rfl rfl) rfl hl.1 rfl (Nat.le_of_ble_eq_true rfl) dX8_restore_10 ⟨Nat.le_of_ble_eq_true rfl, Nat.le_of_ble_eq_true rfl⟩ (fun r_30 u_31 H locs hr_30 hP hD hS => ?_)
    obtain ⟨q_32, rfl⟩ : ∃ z, z = u_31 := ⟨_, rfl⟩
    have h9R := zRe (ws' := [(mhe, .inl (cI, 8, .inl ghe)), (msh, .inl (cI, 8, .inl gsh)), (mki, .inl (cI, 8, .inl gki)), (mpa, .inl (cI, 8, .inl gpa)), (mta, .inl (cI, 8, .inl gta)), (mla, .inl (cI, 40, .inl gla)), (msl, .inl (cI, 40, .inl gsl)), (mco, .inl (cI, 3, .inl gco)), (mke, .inl (cI, 130, .inl gke)), (zMO m0 npu nte nat_ nde nto nse nhu nga nsd nfa mrf mki mpa mta mla msl mco mhe mso msi msh mce mca mwo mnu mte nba npl nen nnu nwr mwa mke mma mth mtr nra nik), (mrf, .inl (cI, 8, .inl q_32))]) hP hD rfl
    clear hP hD
    obtain ⟨hP, hD⟩ := h9R
    obtain rfl := hr_30
    exact W.iret (v := (-6)) hx hb hr (fun t ht hW => ⟨⟨(-6), (npu, nte, nat_, nde, nto, nse, nhu, nga, nsd, q_32, ghe, gki, gpa, gta, gla, gsl, gco), rfl, ⟨(show 0 ≤ npu.toInt ∧ npu.toInt ≤ 8 from ⟨hy0, hy1⟩), (show 4 ≤ nte.toInt ∧ nte.toInt ≤ 40 from ⟨hy2, hy3⟩), (show 0 ≤ nat_.toInt ∧ nat_.toInt ≤ 40 from ⟨hy4, hy5⟩), (show 0 ≤ nde.toInt ∧ nde.toInt ≤ 24 from ⟨hy6, hy7⟩), (show 0 ≤ nhu.toInt ∧ nhu.toInt ≤ 9 from ⟨hy8, hy9⟩), hp_ghe, hp_gki, hp_gpa, hp_gta, hp_gla, hp_gsl, hp_gco, (show zHS ghe gsh from by exact hHS), (show (nik.toInt = 0 ∧ ((-6) : Int32).toInt = -6 ∧ npu.toInt = npu.toInt ∧ nte.toInt = nte.toInt ∧ ghe = ghe) ∨ (nik.toInt ≠ 0 ∧ ((-6) : Int32).toInt = (gke 107).toInt ∧ npu.toInt = (gke 107).toInt ∧ nte.toInt = (gke 108).toInt ∧ ∀ j : Nat, j < 8 → ghe j = (if (ghe j).toInt = 2 ∧ (gke 107).toInt ≤ (gsh j).toInt then 0 else ghe j)) from by (have k9 : ((-6) : Int32).toInt = -6 := (by decide); exact Or.inl ⟨by omega, by omega, rfl, rfl, rfl⟩)), (show (nik.toInt = 0 ∧ gki = gki ∧ gpa = gpa ∧ gta = gta ∧ gla = gla ∧ gsl = gsl ∧ gco = gco ∧ nat_ = nat_ ∧ nde = nde ∧ nto = nto ∧ nse = nse ∧ nhu = nhu ∧ nga = nga ∧ nsd = nsd) ∨ (nik.toInt ≠ 0 ∧ (∀ j : Nat, j < 8 → gki j = gke (0 + j)) ∧ (∀ j : Nat, j < 8 → gpa j = gke (8 + j)) ∧ (∀ j : Nat, j < 8 → gta j = gke (16 + j)) ∧ (∀ j : Nat, j < 40 → gla j = gke (24 + j)) ∧ (∀ j : Nat, j < 40 → gsl j = gke (64 + j)) ∧ (∀ j : Nat, j < 3 → gco j = gke (104 + j)) ∧ nat_ = gke 109 ∧ nde = gke 110 ∧ nto = gke 111 ∧ nse = gke 112 ∧ nhu = gke 113 ∧ nga = gke 114 ∧ nsd = gke 115) from by (have k9 : ((-6) : Int32).toInt = -6 := (by decide); exact Or.inl ⟨by omega, rfl, rfl, rfl, rfl, rfl, rfl, rfl, rfl, rfl, rfl, rfl, rfl, rfl⟩)), trivial⟩, zRet ht hP hD [9, 10, 0, 1, 2, 3, 4, 5, 6, 7, 8] (by decide) rfl⟩, hS.F ht⟩) hS.2.2 dX8_restore_13

