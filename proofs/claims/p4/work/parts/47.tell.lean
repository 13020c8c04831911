theorem hi_X3_tell_3 : ∀ w ∈ u_ws RX3 TX3 8, w ∈ wsX3_tell := fun w h => (goodIn_r (u_ws RX3 TX3 8) [55, 56, 57, 58, 59, 60, 61, 62] rfl (by decide +kernel) w h).1
set_option maxHeartbeats 4000000 in
set_option maxRecDepth 100000 in
theorem c_R_tell (l : Launch) (D : va_G) (cI cJ cZ cP cS : ClassId) (po : zPool) (rd ri rl : Nat) (rz rc rp rf rt ru : Int32) (fi : Nat → Int32) (j0 jp jc z0 zl zs : Nat) (cn de tr se hu sd : Int32) (sz at_ gp : Int32) (fl fs : Nat → Int32) (fp : Nat → Option Nat) (kf af tf : Nat → Int32) (fc : Nat → Int32) (hy0 : 0 ≤ rz.toInt) (hy1 : rz.toInt ≤ 160) (hy2 : 0 ≤ rc.toInt) (hy3 : rc.toInt ≤ 40) (hy4 : 0 ≤ rp.toInt) (hy5 : rp.toInt ≤ 160) (hy6 : rp.toInt ≤ rz.toInt) (hy7 : (-1) ≤ rf.toInt) (hy8 : rf.toInt ≤ 160) (hy9 : 0 ≤ rt.toInt) (hy10 : rt.toInt ≤ 40) (hy11 : 0 ≤ ru.toInt) (hy12 : ru.toInt ≤ 8) (hy13 : 0 ≤ cn.toInt) (hy14 : cn.toInt ≤ 8) (hy15 : 0 ≤ de.toInt) (hy16 : de.toInt ≤ 24) (hy17 : 0 ≤ hu.toInt) (hy18 : hu.toInt ≤ 9) (hy19 : 4 ≤ sz.toInt) (hy20 : sz.toInt ≤ 40) (hy21 : 0 ≤ at_.toInt) (hy22 : at_.toInt ≤ 40) (hy23 : 1 ≤ gp.toInt) (hy24 : gp.toInt ≤ 9) (hy25 : 0 ≤ rc.toInt) (hy26 : rc.toInt ≤ 33) (hits : ∀ k : Nat, k < rc.toInt.toNat → zIt fi (4 * k)) (hp_fl : zRg fl (0) 1) (hp_fs : zRg fs (0) 9) (hp_fc : zRg fc (0) 99) (hpz : Nat) : Met l yX3_tell wsX3_tell ({ frames := 4, cells := 40, slots := 120, locals := 82 }) (va_Pc [.ref rd, .ref j0] (zW D (zKT cI cJ cZ cP cS) po [(rd, .inr (3, [.ref ri, .ref rl, .int rz, .int rc, .int rp, .int rf, .int rt, .int ru])), (ri, .inl (cI, 132, .inl fi)), (j0, .inr (0, [.ref z0, .ref jp, .ref jc, .int cn, .int de, .int tr, .int se, .int hu, .int sd])), (z0, .inr (6, [.ref zl, .ref zs, .int sz, .int at_, .int gp])), (zl, .inl (cZ, 40, .inl fl)), (zs, .inl (cI, 40, .inl fs)), (jp, .inl (cP, 8, .inr (.inr (.inr (.inr fp))))), (jc, .inl (cI, 3, .inl fc))] hpz)) (va_Qv (fun (u : (Int32) × (Int32) × (Int32) × (Int32) × (Int32) × (Int32) × (Nat → Int32) × (Nat → Int32) × (Nat → Int32) × (Int32) × (Nat → Option Nat) × (Nat → Int32) × (Nat → Int32) × (Nat → Int32) × (List (Nat × Int32 × Int32 × Int32))) => (0 ≤ u.1.toInt ∧ u.1.toInt ≤ 24) ∧ (0 ≤ u.2.2.1.toInt ∧ u.2.2.1.toInt ≤ 9) ∧ (4 ≤ u.2.2.2.1.toInt ∧ u.2.2.2.1.toInt ≤ 40) ∧ (0 ≤ u.2.2.2.2.1.toInt ∧ u.2.2.2.2.1.toInt ≤ 40) ∧ (1 ≤ u.2.2.2.2.2.1.toInt ∧ u.2.2.2.2.2.1.toInt ≤ 9) ∧ zRg u.2.2.2.2.2.2.1 (0) 1 ∧ zRg u.2.2.2.2.2.2.2.1 (0) 9 ∧ zRg u.2.2.2.2.2.2.2.2.1 (0) 99 ∧ (0 ≤ u.2.2.2.2.2.2.2.2.2.1.toInt ∧ u.2.2.2.2.2.2.2.2.2.1.toInt ≤ 8) ∧ (∀ z ∈ u.2.2.2.2.2.2.2.2.2.2.2.2.2.2, zPr z.2.1 z.2.2.1 z.2.2.2) ∧ (zExt u.2.2.2.2.2.2.2.2.2.2.2.2.2.2 fp cn kf af tf u.2.2.2.2.2.2.2.2.2.2.1 u.2.2.2.2.2.2.2.2.2.1 u.2.2.2.2.2.2.2.2.2.2.2.1 u.2.2.2.2.2.2.2.2.2.2.2.2.1 u.2.2.2.2.2.2.2.2.2.2.2.2.2.1) ∧ (True)) (zB D [(rd, .inr (3, [.ref ri, .ref rl, .int rz, .int rc, .int rp, .int rf, .int rt, .int ru])), (ri, .inl (cI, 132, .inl fi)), (j0, .inr (0, [.ref z0, .ref jp, .ref jc, .int cn, .int de, .int tr, .int se, .int hu, .int sd])), (z0, .inr (6, [.ref zl, .ref zs, .int sz, .int at_, .int gp])), (zl, .inl (cZ, 40, .inl fl)), (zs, .inl (cI, 40, .inl fs)), (jp, .inl (cP, 8, .inr (.inr (.inr (.inr fp))))), (jc, .inl (cI, 3, .inl fc))] hpz (fun (u : (Int32) × (Int32) × (Int32) × (Int32) × (Int32) × (Int32) × (Nat → Int32) × (Nat → Int32) × (Nat → Int32) × (Int32) × (Nat → Option Nat) × (Nat → Int32) × (Nat → Int32) × (Nat → Int32) × (List (Nat × Int32 × Int32 × Int32))) => ([(rd, .inr (3, [.ref ri, .ref rl, .int rz, .int rc, .int rp, .int rf, .int rt, .int ru])), (ri, .inl (cI, 132, .inl fi)), (j0, .inr (0, [.ref z0, .ref jp, .ref jc, .int u.2.2.2.2.2.2.2.2.2.1, .int u.1, .int tr, .int u.2.1, .int u.2.2.1, .int sd])), (z0, .inr (6, [.ref zl, .ref zs, .int u.2.2.2.1, .int u.2.2.2.2.1, .int u.2.2.2.2.2.1])), (zl, .inl (cZ, 40, .inl u.2.2.2.2.2.2.1)), (zs, .inl (cI, 40, .inl u.2.2.2.2.2.2.2.1)), (jp, .inl (cP, 8, .inr (.inr (.inr (.inr u.2.2.2.2.2.2.2.2.2.2.1))))), (jc, .inl (cI, 3, .inl u.2.2.2.2.2.2.2.2.1))] ++ u.2.2.2.2.2.2.2.2.2.2.2.2.2.2.map zPo))) (va_A [(rd, .inr (3, [.ref ri, .ref rl, .int rz, .int rc, .int rp, .int rf, .int rt, .int ru])), (ri, .inl (cI, 132, .inl fi)), (j0, .inr (0, [.ref z0, .ref jp, .ref jc, .int cn, .int de, .int tr, .int se, .int hu, .int sd])), (z0, .inr (6, [.ref zl, .ref zs, .int sz, .int at_, .int gp])), (zl, .inl (cZ, 40, .inl fl)), (zs, .inl (cI, 40, .inl fs)), (jp, .inl (cP, 8, .inr (.inr (.inr (.inr fp))))), (jc, .inl (cI, 3, .inl fc))] hpz)) 40 120 (va_A [(rd, .inr (3, [.ref ri, .ref rl, .int rz, .int rc, .int rp, .int rf, .int rt, .int ru])), (ri, .inl (cI, 132, .inl fi)), (j0, .inr (0, [.ref z0, .ref jp, .ref jc, .int cn, .int de, .int tr, .int se, .int hu, .int sd])), (z0, .inr (6, [.ref zl, .ref zs, .int sz, .int at_, .int gp])), (zl, .inl (cZ, 40, .inl fl)), (zs, .inl (cI, 40, .inl fs)), (jp, .inl (cP, 8, .inr (.inr (.inr (.inr fp))))), (jc, .inl (cI, 3, .inl fc))] hpz) := by
  refine Met.ofW (cc := cX3_tell) (maxL := 3) (ret := none) (by decide) rfl ?_
  intro p e s m args below meth c s₁ B hml hv
  obtain ⟨rfl, hsz, hP, hK, hD0, hN, hZ⟩ := hv
  have hx := B.exec
  have hb := B.bytes
  have hr := B.returns
  have hts := atoms_spec (ws := wsX3_tell) B.pre
  have hown : s.vm.findClass RX3 = some m.cls := findClass_of_methodNamed B.named
  have hlocks := B.notSynchronized
  subst hsz
  have hD := hD0.self (sz := s.heap.size)
  have hA : ∀ q : Nat, s.heap.size ≤ q → va_A [(rd, .inr (3, [.ref ri, .ref rl, .int rz, .int rc, .int rp, .int rf, .int rt, .int ru])), (ri, .inl (cI, 132, .inl fi)), (j0, .inr (0, [.ref z0, .ref jp, .ref jc, .int cn, .int de, .int tr, .int se, .int hu, .int sd])), (z0, .inr (6, [.ref zl, .ref zs, .int sz, .int at_, .int gp])), (zl, .inl (cZ, 40, .inl fl)), (zs, .inl (cI, 40, .inl fs)), (jp, .inl (cP, 8, .inr (.inr (.inr (.inr fp))))), (jc, .inl (cI, 3, .inl fc))] s.heap.size q := fun q h => Or.inr h
  have hS : va_S (va_A [(rd, .inr (3, [.ref ri, .ref rl, .int rz, .int rc, .int rp, .int rf, .int rt, .int ru])), (ri, .inl (cI, 132, .inl fi)), (j0, .inr (0, [.ref z0, .ref jp, .ref jc, .int cn, .int de, .int tr, .int se, .int hu, .int sd])), (z0, .inr (6, [.ref zl, .ref zs, .int sz, .int at_, .int gp])), (zl, .inl (cZ, 40, .inl fl)), (zs, .inl (cI, 40, .inl fs)), (jp, .inl (cP, 8, .inr (.inr (.inr (.inr fp))))), (jc, .inl (cI, 3, .inl fc))] s.heap.size) s.heap s.heap [] := va_S.rf
  replace hP : va_P D vwCl _ s.heap := hP
  have hl := lv_entry ([.ref rd, .ref j0]) (n := 3) (Nat.le_of_ble_eq_true rfl)
  rw [lg_entry_eq]
  generalize (lg_sl ([.ref rd, .ref j0]) ++ List.replicate (3 - (lg_sl ([.ref rd, .ref j0])).length) Slot.unset).toArray = ls at hl ⊢
  replace hl : lv_has ls 3 [(0, .ref rd), (1, .ref j0)] := hl
  refine zw_start (fun H locs hH hL => ?_)
  replace hP : va_P D vwCl [(rd, .inr (3, [.ref ri, .ref rl, .int rz, .int rc, .int rp, .int rf, .int rt, .int ru])), (ri, .inl (cI, 132, .inl fi)), (j0, .inr (0, [.ref z0, .ref jp, .ref jc, .int cn, .int de, .int tr, .int se, .int hu, .int sd])), (z0, .inr (6, [.ref zl, .ref zs, .int sz, .int at_, .int gp])), (zl, .inl (cZ, 40, .inl fl)), (zs, .inl (cI, 40, .inl fs)), (jp, .inl (cP, 8, .inr (.inr (.inr (.inr fp))))), (jc, .inl (cI, 3, .inl fc))] H := by rw [hH]; exact hP
  replace hS : va_S (va_A [(rd, .inr (3, [.ref ri, .ref rl, .int rz, .int rc, .int rp, .int rf, .int rt, .int ru])), (ri, .inl (cI, 132, .inl fi)), (j0, .inr (0, [.ref z0, .ref jp, .ref jc, .int cn, .int de, .int tr, .int se, .int hu, .int sd])), (z0, .inr (6, [.ref zl, .ref zs, .int sz, .int at_, .int gp])), (zl, .inl (cZ, 40, .inl fl)), (zs, .inl (cI, 40, .inl fs)), (jp, .inl (cP, 8, .inr (.inr (.inr (.inr fp))))), (jc, .inl (cI, 3, .inl fc))] s.heap.size) s.heap H locs := by rw [hH, hL]; exact hS
  clear hH hL
  refine lv_iconst (v := 0) hx hb dX3_tell_0 (by decide) ?_
  refine lv_istore_n (lv' := [(2, .int 0), (0, .ref rd), (1, .ref j0)]) hx hb dX3_tell_1 rfl hl (by decide) rfl (fun ls hl => ?_)
  obtain ⟨i_2, hi_2⟩ : ∃ i : Int32, i = 0 := ⟨_, rfl⟩
  replace hl : lv_has ls 3 [(2, .int i_2), (0, .ref rd), (1, .ref j0)] := by rw [hi_2]; exact lv_sub hl [0, 1, 2] rfl
  have h1i_2 : i_2.toInt = 0 := by rw [hi_2]; decide
  obtain ⟨nfu, hni_2⟩ : ∃ nq9 : Nat, rc.toInt ≤ i_2.toInt + (nq9 : Int) := ⟨((rc.toInt : Int) - 0).toNat, by omega⟩
  have hloi_2 : 0 ≤ i_2.toInt := by omega
  obtain ⟨g_1, hg_1⟩ : ∃ g : Nat → Int32, g = fl := ⟨_, rfl⟩
  have hpg_1 : zRg g_1 (0) 1 := by rw [hg_1]; exact hp_fl
  obtain ⟨g_2, hg_2⟩ : ∃ g : Nat → Int32, g = fs := ⟨_, rfl⟩
  have hpg_2 : zRg g_2 (0) 9 := by rw [hg_2]; exact hp_fs
  obtain ⟨g_3, hg_3⟩ : ∃ g : Nat → Int32, g = fc := ⟨_, rfl⟩
  have hpg_3 : zRg g_3 (0) 99 := by rw [hg_3]; exact hp_fc
  obtain ⟨g_4, hg_4⟩ : ∃ g : Nat → Option Nat, g = fp := ⟨_, rfl⟩
  obtain ⟨v_5, hv_5⟩ : ∃ g : Int32, g = sz := ⟨_, rfl⟩
  have hbv_5 : 4 ≤ v_5.toInt ∧ v_5.toInt ≤ 40 := by rw [hv_5]; exact ⟨by omega, by omega⟩
  obtain ⟨v_6, hv_6⟩ : ∃ g : Int32, g = at_ := ⟨_, rfl⟩
  have hbv_6 : 0 ≤ v_6.toInt ∧ v_6.toInt ≤ 40 := by rw [hv_6]; exact ⟨by omega, by omega⟩
  obtain ⟨v_7, hv_7⟩ : ∃ g : Int32, g = gp := ⟨_, rfl⟩
  have hbv_7 : 1 ≤ v_7.toInt ∧ v_7.toInt ≤ 9 := by rw [hv_7]; exact ⟨by omega, by omega⟩
  obtain ⟨v_8, hv_8⟩ : ∃ g : Int32, g = cn := ⟨_, rfl⟩
  have hbv_8 : 0 ≤ v_8.toInt ∧ v_8.toInt ≤ 8 := by rw [hv_8]; exact ⟨by omega, by omega⟩
  obtain ⟨v_9, hv_9⟩ : ∃ g : Int32, g = de := ⟨_, rfl⟩
  have hbv_9 : 0 ≤ v_9.toInt ∧ v_9.toInt ≤ 24 := by rw [hv_9]; exact ⟨by omega, by omega⟩
  obtain ⟨v_10, hv_10⟩ : ∃ g : Int32, g = se := ⟨_, rfl⟩
  obtain ⟨v_11, hv_11⟩ : ∃ g : Int32, g = hu := ⟨_, rfl⟩
  have hbv_11 : 0 ≤ v_11.toInt ∧ v_11.toInt ≤ 9 := by rw [hv_11]; exact ⟨by omega, by omega⟩
  replace hP : va_P D vwCl [(rd, .inr (3, [.ref ri, .ref rl, .int rz, .int rc, .int rp, .int rf, .int rt, .int ru])), (ri, .inl (cI, 132, .inl fi)), (j0, .inr (0, [.ref z0, .ref jp, .ref jc, .int v_8, .int v_9, .int tr, .int v_10, .int v_11, .int sd])), (z0, .inr (6, [.ref zl, .ref zs, .int v_5, .int v_6, .int v_7])), (zl, .inl (cZ, 40, .inl g_1)), (zs, .inl (cI, 40, .inl g_2)), (jp, .inl (cP, 8, .inr (.inr (.inr (.inr g_4))))), (jc, .inl (cI, 3, .inl g_3))] H := by rw [hg_1, hg_2, hg_3, hg_4, hv_5, hv_6, hv_7, hv_8, hv_9, hv_10, hv_11]; exact hP
  replace hD : va_D (va_A [(rd, .inr (3, [.ref ri, .ref rl, .int rz, .int rc, .int rp, .int rf, .int rt, .int ru])), (ri, .inl (cI, 132, .inl fi)), (j0, .inr (0, [.ref z0, .ref jp, .ref jc, .int cn, .int de, .int tr, .int se, .int hu, .int sd])), (z0, .inr (6, [.ref zl, .ref zs, .int sz, .int at_, .int gp])), (zl, .inl (cZ, 40, .inl fl)), (zs, .inl (cI, 40, .inl fs)), (jp, .inl (cP, 8, .inr (.inr (.inr (.inr fp))))), (jc, .inl (cI, 3, .inl fc))] s.heap.size) [(rd, .inr (3, [.ref ri, .ref rl, .int rz, .int rc, .int rp, .int rf, .int rt, .int ru])), (ri, .inl (cI, 132, .inl fi)), (j0, .inr (0, [.ref z0, .ref jp, .ref jc, .int v_8, .int v_9, .int tr, .int v_10, .int v_11, .int sd])), (z0, .inr (6, [.ref zl, .ref zs, .int v_5, .int v_6, .int v_7])), (zl, .inl (cZ, 40, .inl g_1)), (zs, .inl (cI, 40, .inl g_2)), (jp, .inl (cP, 8, .inr (.inr (.inr (.inr g_4))))), (jc, .inl (cI, 3, .inl g_3))] := by rw [hg_1, hg_2, hg_3, hg_4, hv_5, hv_6, hv_7, hv_8, hv_9, hv_10, hv_11]; exact hD
  obtain ⟨g_12, hg_12⟩ : ∃ g : Nat → Int32, g = kf := ⟨_, rfl⟩
  obtain ⟨g_13, hg_13⟩ : ∃ g : Nat → Int32, g = af := ⟨_, rfl⟩
  obtain ⟨g_14, hg_14⟩ : ∃ g : Nat → Int32, g = tf := ⟨_, rfl⟩
  obtain ⟨tl, htl⟩ : ∃ z : List (Nat × Int32 × Int32 × Int32), z = [] := ⟨_, rfl⟩
  replace hP : va_P D vwCl ([(rd, .inr (3, [.ref ri, .ref rl, .int rz, .int rc, .int rp, .int rf, .int rt, .int ru])), (ri, .inl (cI, 132, .inl fi)), (j0, .inr (0, [.ref z0, .ref jp, .ref jc, .int v_8, .int v_9, .int tr, .int v_10, .int v_11, .int sd])), (z0, .inr (6, [.ref zl, .ref zs, .int v_5, .int v_6, .int v_7])), (zl, .inl (cZ, 40, .inl g_1)), (zs, .inl (cI, 40, .inl g_2)), (jp, .inl (cP, 8, .inr (.inr (.inr (.inr g_4))))), (jc, .inl (cI, 3, .inl g_3))] ++ (tl.map zPo)) H := by rw [htl]; exact hP
  replace hD : va_D (va_A [(rd, .inr (3, [.ref ri, .ref rl, .int rz, .int rc, .int rp, .int rf, .int rt, .int ru])), (ri, .inl (cI, 132, .inl fi)), (j0, .inr (0, [.ref z0, .ref jp, .ref jc, .int cn, .int de, .int tr, .int se, .int hu, .int sd])), (z0, .inr (6, [.ref zl, .ref zs, .int sz, .int at_, .int gp])), (zl, .inl (cZ, 40, .inl fl)), (zs, .inl (cI, 40, .inl fs)), (jp, .inl (cP, 8, .inr (.inr (.inr (.inr fp))))), (jc, .inl (cI, 3, .inl fc))] s.heap.size) ([(rd, .inr (3, [.ref ri, .ref rl, .int rz, .int rc, .int rp, .int rf, .int rt, .int ru])), (ri, .inl (cI, 132, .inl fi)), (j0, .inr (0, [.ref z0, .ref jp, .ref jc, .int v_8, .int v_9, .int tr, .int v_10, .int v_11, .int sd])), (z0, .inr (6, [.ref zl, .ref zs, .int v_5, .int v_6, .int v_7])), (zl, .inl (cZ, 40, .inl g_1)), (zs, .inl (cI, 40, .inl g_2)), (jp, .inl (cP, 8, .inr (.inr (.inr (.inr g_4))))), (jc, .inl (cI, 3, .inl g_3))] ++ (tl.map zPo)) := by rw [htl]; exact hD
  have htp : ∀ z ∈ tl, zPr z.2.1 z.2.2.1 z.2.2.2 := by rw [htl]; intro z hz; simp at hz
  refine zcells (fun kc ks hkc hks => ?_)
  have hkc1 : (kc : Int) ≤ i_2.toInt := by omega
  have hks1 : (ks : Int) ≤ 3 * i_2.toInt := by omega
  have hvi_2_0 : zExt tl fp cn kf af tf g_4 (v_8 : Int32) g_12 g_13 g_14 := by
    (try rw [hi_2]); (try rw [hg_1]); (try rw [hg_2]); (try rw [hg_3]); (try rw [hg_4]); (try rw [hv_5]); (try rw [hv_6]); (try rw [hv_7]); (try rw [hv_8]); (try rw [hv_9]); (try rw [hv_10]); (try rw [hv_11]); (try rw [hg_12]); (try rw [hg_13]); (try rw [hg_14]); (try rw [htl]); exact zExt.refl
  have hvi_2_1 : i_2.toInt ≤ rc.toInt := by
    (try rw [hi_2]); (try rw [hg_1]); (try rw [hg_2]); (try rw [hg_3]); (try rw [hg_4]); (try rw [hv_5]); (try rw [hv_6]); (try rw [hv_7]); (try rw [hv_8]); (try rw [hv_9]); (try rw [hv_10]); (try rw [hv_11]); (try rw [hg_12]); (try rw [hg_13]); (try rw [hg_14]); (try rw [htl]); first | omega | (simp; omega)
  clear h1i_2 hi_2 hg_1 hg_2 hg_3 hg_4 hv_5 hv_6 hv_7 hv_8 hv_9 hv_10 hv_11 hg_12 hg_13 hg_14 htl hkc hks
  skip
  revert hni_2
  revert hloi_2
  revert hvi_2_1
  revert hvi_2_0
  revert hbv_11
  revert hbv_9
  revert hbv_8
  revert hbv_7
  revert hbv_6
  revert hbv_5
  revert hpg_3
  revert hpg_2
  revert hpg_1
  revert hks1
  revert hkc1
  revert htp
  revert hl
  revert hS
  revert hD
  revert hP
  revert ls
  revert ks
  revert kc
  revert tl
  revert locs
  revert H
  revert g_1
  revert g_2
  revert g_3
  revert g_4
  revert v_5
  revert v_6
  revert v_7
  revert v_8
  revert v_9
  revert v_10
  revert v_11
  revert g_12
  revert g_13
  revert g_14
  revert i_2
  induction nfu with
  | zero =>
    intro i_2 g_14 g_13 g_12 v_11 v_10 v_9 v_8 v_7 v_6 v_5 g_4 g_3 g_2 g_1 H locs tl kc ks ls hP hD hS hl htp hkc1 hks1 hpg_1 hpg_2 hpg_3 hbv_5 hbv_6 hbv_7 hbv_8 hbv_9 hbv_11 hvi_2_0 hvi_2_1 hloi_2 hni_2
    have hzi_2 : rc.toInt ≤ i_2.toInt := by omega
    refine lv_iload_n hx hb dX3_tell_2 rfl (lv_at hl 0 rfl) ?_
    refine lv_aload_n hx hb dX3_tell_3 rfl (lv_at hl 1 rfl) ?_
    refine va_get (D := D) (ci := 3) (v := .int rc) (C := RX3) (T := TX3) (N := 8) hx hb hts hi_X3_tell_3 hown hK hP 0 rfl rfl 3 (by decide) (hts (.fieldLink RX3 22 "TheLiningsInIt$Reader" "count" "I") (List.mem_of_getElem? (i := 1) rfl)) (fun _ h9 => h9) rfl dX3_tell_4 ?_
    refine lv_icmp_ge (tgt := 24) hx hb dX3_tell_7 (by decide) (fun c_15 => ?_) (fun c_15 => ?_)
    · have fc_15 : rc.toInt ≤ i_2.toInt := zf_le c_15 rfl rfl
      refine W.widen (k := 40) (n := 120) (by omega) (by omega) ?_
      exact W.vret hx hb hr (fun t ht hW => ⟨⟨(v_9, v_10, v_11, v_5, v_6, v_7, g_1, g_2, g_3, v_8, g_4, g_12, g_13, g_14, tl), rfl, ⟨(show 0 ≤ v_9.toInt ∧ v_9.toInt ≤ 24 from hbv_9), (show 0 ≤ v_11.toInt ∧ v_11.toInt ≤ 9 from hbv_11), (show 4 ≤ v_5.toInt ∧ v_5.toInt ≤ 40 from hbv_5), (show 0 ≤ v_6.toInt ∧ v_6.toInt ≤ 40 from hbv_6), (show 1 ≤ v_7.toInt ∧ v_7.toInt ≤ 9 from hbv_7), hpg_1, hpg_2, hpg_3, (show 0 ≤ v_8.toInt ∧ v_8.toInt ≤ 8 from hbv_8), htp, (show zExt tl fp cn kf af tf g_4 v_8 g_12 g_13 g_14 from by assumption), trivial⟩, by rw [ht]; exact hP.part (cx := [(rd, .inr (3, [.ref ri, .ref rl, .int rz, .int rc, .int rp, .int rf, .int rt, .int ru])), (ri, .inl (cI, 132, .inl fi)), (j0, .inr (0, [.ref z0, .ref jp, .ref jc, .int v_8, .int v_9, .int tr, .int v_10, .int v_11, .int sd])), (z0, .inr (6, [.ref zl, .ref zs, .int v_5, .int v_6, .int v_7])), (zl, .inl (cZ, 40, .inl g_1)), (zs, .inl (cI, 40, .inl g_2)), (jp, .inl (cP, 8, .inr (.inr (.inr (.inr g_4))))), (jc, .inl (cI, 3, .inl g_3))]) (pl := (tl.map zPo)) [0, 1, 2, 3, 4, 5, 6, 7] rfl, hD.part (cx := [(rd, .inr (3, [.ref ri, .ref rl, .int rz, .int rc, .int rp, .int rf, .int rt, .int ru])), (ri, .inl (cI, 132, .inl fi)), (j0, .inr (0, [.ref z0, .ref jp, .ref jc, .int v_8, .int v_9, .int tr, .int v_10, .int v_11, .int sd])), (z0, .inr (6, [.ref zl, .ref zs, .int v_5, .int v_6, .int v_7])), (zl, .inl (cZ, 40, .inl g_1)), (zs, .inl (cI, 40, .inl g_2)), (jp, .inl (cP, 8, .inr (.inr (.inr (.inr g_4))))), (jc, .inl (cI, 3, .inl g_3))]) (pl := (tl.map zPo)) [0, 1, 2, 3, 4, 5, 6, 7] (by decide) rfl⟩, hS.F ht⟩) hS.2.2 dX3_tell_24
    · exfalso; have fc_15 : i_2.toInt < rc.toInt := zf_nle c_15 rfl rfl; omega
  | succ nfu ih =>
    intro i_2 g_14 g_13 g_12 v_11 v_10 v_9 v_8 v_7 v_6 v_5 g_4 g_3 g_2 g_1 H locs tl kc ks ls hP hD hS hl htp hkc1 hks1 hpg_1 hpg_2 hpg_3 hbv_5 hbv_6 hbv_7 hbv_8 hbv_9 hbv_11 hvi_2_0 hvi_2_1 hloi_2 hni_2
    refine lv_iload_n hx hb dX3_tell_2 rfl (lv_at hl 0 rfl) ?_
    refine lv_aload_n hx hb dX3_tell_3 rfl (lv_at hl 1 rfl) ?_
    refine va_get (D := D) (ci := 3) (v := .int rc) (C := RX3) (T := TX3) (N := 8) hx hb hts hi_X3_tell_3 hown hK hP 0 rfl rfl 3 (by decide) (hts (.fieldLink RX3 22 "TheLiningsInIt$Reader" "count" "I") (List.mem_of_getElem? (i := 1) rfl)) (fun _ h9 => h9) rfl dX3_tell_4 ?_
    refine lv_icmp_ge (tgt := 24) hx hb dX3_tell_7 (by decide) (fun c_16 => ?_) (fun c_16 => ?_)
    · have fc_16 : rc.toInt ≤ i_2.toInt := zf_le c_16 rfl rfl
      refine W.widen (k := 40) (n := 120) (by omega) (by omega) ?_
      exact W.vret hx hb hr (fun t ht hW => ⟨⟨(v_9, v_10, v_11, v_5, v_6, v_7, g_1, g_2, g_3, v_8, g_4, g_12, g_13, g_14, tl), rfl, ⟨(show 0 ≤ v_9.toInt ∧ v_9.toInt ≤ 24 from hbv_9), (show 0 ≤ v_11.toInt ∧ v_11.toInt ≤ 9 from hbv_11), (show 4 ≤ v_5.toInt ∧ v_5.toInt ≤ 40 from hbv_5), (show 0 ≤ v_6.toInt ∧ v_6.toInt ≤ 40 from hbv_6), (show 1 ≤ v_7.toInt ∧ v_7.toInt ≤ 9 from hbv_7), hpg_1, hpg_2, hpg_3, (show 0 ≤ v_8.toInt ∧ v_8.toInt ≤ 8 from hbv_8), htp, (show zExt tl fp cn kf af tf g_4 v_8 g_12 g_13 g_14 from by assumption), trivial⟩, by rw [ht]; exact hP.part (cx := [(rd, .inr (3, [.ref ri, .ref rl, .int rz, .int rc, .int rp, .int rf, .int rt, .int ru])), (ri, .inl (cI, 132, .inl fi)), (j0, .inr (0, [.ref z0, .ref jp, .ref jc, .int v_8, .int v_9, .int tr, .int v_10, .int v_11, .int sd])), (z0, .inr (6, [.ref zl, .ref zs, .int v_5, .int v_6, .int v_7])), (zl, .inl (cZ, 40, .inl g_1)), (zs, .inl (cI, 40, .inl g_2)), (jp, .inl (cP, 8, .inr (.inr (.inr (.inr g_4))))), (jc, .inl (cI, 3, .inl g_3))]) (pl := (tl.map zPo)) [0, 1, 2, 3, 4, 5, 6, 7] rfl, hD.part (cx := [(rd, .inr (3, [.ref ri, .ref rl, .int rz, .int rc, .int rp, .int rf, .int rt, .int ru])), (ri, .inl (cI, 132, .inl fi)), (j0, .inr (0, [.ref z0, .ref jp, .ref jc, .int v_8, .int v_9, .int tr, .int v_10, .int v_11, .int sd])), (z0, .inr (6, [.ref zl, .ref zs, .int v_5, .int v_6, .int v_7])), (zl, .inl (cZ, 40, .inl g_1)), (zs, .inl (cI, 40, .inl g_2)), (jp, .inl (cP, 8, .inr (.inr (.inr (.inr g_4))))), (jc, .inl (cI, 3, .inl g_3))]) (pl := (tl.map zPo)) [0, 1, 2, 3, 4, 5, 6, 7] (by decide) rfl⟩, hS.F ht⟩) hS.2.2 dX3_tell_24
    · have fc_16 : i_2.toInt < rc.toInt := zf_nle c_16 rfl rfl
      refine lv_aload_n hx hb dX3_tell_10 rfl (lv_at hl 1 rfl) ?_
      refine lv_aload_n hx hb dX3_tell_11 rfl (lv_at hl 2 rfl) ?_
      refine lv_iload_n hx hb dX3_tell_12 rfl (lv_at hl 0 rfl) ?_
      refine lv_iconst (v := 4) hx hb dX3_tell_13 (by decide) ?_
      refine lv_imul hx hb dX3_tell_14 ?_
      refine lv_topi (fun x_17 ex_17 => ?_)
      have qx_17 : x_17.toInt = i_2.toInt * 4 := by rw [ex_17]; exact zf_mul rfl (by decide) (by omega) (by omega)
      skip
      refine zt_Vv (As := [.ref j0, .int x_17]) (rest := []) (ws := [(rd, .inr (3, [.ref ri, .ref rl, .int rz, .int rc, .int rp, .int rf, .int rt, .int ru])), (ri, .inl (cI, 132, .inl fi)), (j0, .inr (0, [.ref z0, .ref jp, .ref jc, .int v_8, .int v_9, .int tr, .int v_10, .int v_11, .int sd])), (z0, .inr (6, [.ref zl, .ref zs, .int v_5, .int v_6, .int v_7])), (zl, .inl (cZ, 40, .inl g_1)), (zs, .inl (cI, 40, .inl g_2)), (jp, .inl (cP, 8, .inr (.inr (.inr (.inr g_4))))), (jc, .inl (cI, 3, .inl g_3))]) (wr := []) ⟨hx, hb, hml, hown, hts⟩ (c_R_tellItem l D cI cJ cZ cP cS po rd ri rl (rz) (rc) (rp) (rf) (rt) (ru) fi j0 jp jc z0 zl zs (v_8) (v_9) (tr) (v_10) (v_11) (sd) (v_5) (v_6) (v_7) g_1 g_2 g_4 g_12 g_13 g_14 g_3 (x_17) hy0 hy1 hy2 hy3 hy4 hy5 (by omega) hy7 hy8 hy9 hy10 hy11 hy12 hbv_8.1 hbv_8.2 hbv_9.1 hbv_9.2 hbv_11.1 hbv_11.2 hbv_5.1 hbv_5.2 hbv_6.1 hbv_6.2 hbv_7.1 hbv_7.2 (by omega) (by omega) (by have z := hits i_2.toInt.toNat (by omega); rw [show 4 * i_2.toInt.toNat = x_17.toInt.toNat from by omega] at z; exact z) hpg_1 hpg_2 hpg_3 H.size) (cwV 2 hts gX3_tell_X3_tellItem rfl rfl rfl (by decide +kernel) ⟨Nat.le_of_ble_eq_true rfl, Nat.le_of_ble_eq_true rfl⟩) hK hN hP hD hS hA [0, 1, 2, 3, 4, 5, 6, 7] [] rfl rfl (by decide) (by decide) (by decide) ((hZ.kept hS).narrow (zt_free hD hS hA (ws := [(rd, .inr (3, [.ref ri, .ref rl, .int rz, .int rc, .int rp, .int rf, .int rt, .int ru])), (ri, .inl (cI, 132, .inl fi)), (j0, .inr (0, [.ref z0, .ref jp, .ref jc, .int v_8, .int v_9, .int tr, .int v_10, .int v_11, .int sd])), (z0, .inr (6, [.ref zl, .ref zs, .int v_5, .int v_6, .int v_7])), (zl, .inl (cZ, 40, .inl g_1)), (zs, .inl (cI, 40, .inl g_2)), (jp, .inl (cP, 8, .inr (.inr (.inr (.inr g_4))))), (jc, .inl (cI, 3, .inl g_3))]) (isC := [0, 1, 2, 3, 4, 5, 6, 7]) rfl)) (va_recv hK hP (ci := 3) (q0 := 0) rfl rfl) rfl hl.1 rfl (Nat.le_of_ble_eq_true rfl) dX3_tell_15 ⟨by (show kc + 1 ≤ 40; omega), by (show ks + 3 ≤ 120; omega)⟩ (fun u_19 H locs hr_18 hP hD hS => ?_)
      obtain ⟨q_20, q_21, q_22, q_23, q_24, q_25, q_26, q_27, q_28, q_29, q_30, q_31, q_32, q_33, q_34⟩ := u_19
      try dsimp only at hr_18
      obtain ⟨hbq_20, hbq_22, hbq_23, hbq_24, hbq_25, hpq_26, hpq_27, hpq_28, hbq_29, hnpq_34, hsr_18_0, hr_18⟩ := hr_18
      have hnqq_34 : ∀ z ∈ q_34 ++ tl, zPr z.2.1 z.2.2.1 z.2.2.2 := fun z hz => (List.mem_append.mp hz).elim (hnpq_34 z) (htp z)
      rw [zT_app] at hP hD
      replace hP : va_P D vwCl ([(rd, .inr (3, [.ref ri, .ref rl, .int rz, .int rc, .int rp, .int rf, .int rt, .int ru])), (ri, .inl (cI, 132, .inl fi)), (j0, .inr (0, [.ref z0, .ref jp, .ref jc, .int q_29, .int q_20, .int tr, .int q_21, .int q_22, .int sd])), (z0, .inr (6, [.ref zl, .ref zs, .int q_23, .int q_24, .int q_25])), (zl, .inl (cZ, 40, .inl q_26)), (zs, .inl (cI, 40, .inl q_27)), (jp, .inl (cP, 8, .inr (.inr (.inr (.inr q_30))))), (jc, .inl (cI, 3, .inl q_28))] ++ ((q_34 ++ tl).map zPo)) H := hP
      replace hD : va_D _ ([(rd, .inr (3, [.ref ri, .ref rl, .int rz, .int rc, .int rp, .int rf, .int rt, .int ru])), (ri, .inl (cI, 132, .inl fi)), (j0, .inr (0, [.ref z0, .ref jp, .ref jc, .int q_29, .int q_20, .int tr, .int q_21, .int q_22, .int sd])), (z0, .inr (6, [.ref zl, .ref zs, .int q_23, .int q_24, .int q_25])), (zl, .inl (cZ, 40, .inl q_26)), (zs, .inl (cI, 40, .inl q_27)), (jp, .inl (cP, 8, .inr (.inr (.inr (.inr q_30))))), (jc, .inl (cI, 3, .inl q_28))] ++ ((q_34 ++ tl).map zPo)) := hD
      obtain ⟨x_35, ex_35⟩ : ∃ y : Int32, y = i_2 + 1 := ⟨_, rfl⟩
      have qx_35 : x_35.toInt = i_2.toInt + 1 := by rw [ex_35]; exact zf_add rfl (by decide) (by omega) (by omega)
      refine lv_iinc (v := x_35) (lv' := [(2, .int x_35), (0, .ref rd), (1, .ref j0)]) hx hb dX3_tell_18 hl (k := 0) rfl ex_35.symm (by decide) rfl (fun ls hl => ?_)
      refine lv_goto (tgt := 2) hx hb dX3_tell_21 (by decide) ?_
      exact ih x_35 q_33 q_32 q_31 (q_22) (q_21) (q_20) (q_29) (q_25) (q_24) (q_23) (q_30) (q_28) (q_27) (q_26) _ _ (q_34 ++ tl) _ _ _ (hP.part [0, 1, 2, 3, 4, 5, 6, 7] rfl) (hD.part [0, 1, 2, 3, 4, 5, 6, 7] (by decide) rfl) hS (lv_sub hl [0, 1, 2] rfl) hnqq_34 (by omega) (by omega) hpq_26 hpq_27 hpq_28 hbq_23 hbq_24 hbq_25 hbq_29 hbq_20 hbq_22 (show zExt (q_34 ++ tl) fp cn kf af tf q_30 (q_29 : Int32) q_31 q_32 q_33 from by exact hvi_2_0.trans hsr_18_0) (show x_35.toInt ≤ rc.toInt from by omega) (by omega) (by omega)
