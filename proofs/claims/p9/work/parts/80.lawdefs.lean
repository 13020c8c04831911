theorem zS_chain (sh : Nat → Nat) : (va_up (va_up (va_up (va_up (va_up (va_up (va_up (va_up (fun _ => none) (0 : Int32).toNatClampNeg (some (sh 0))) (1 : Int32).toNatClampNeg (some (sh 1))) (2 : Int32).toNatClampNeg (some (sh 2))) (3 : Int32).toNatClampNeg (some (sh 3))) (4 : Int32).toNatClampNeg (some (sh 4))) (5 : Int32).toNatClampNeg (some (sh 5))) (6 : Int32).toNatClampNeg (some (sh 6))) (7 : Int32).toNatClampNeg (some (sh 7))) = zS sh := by
  funext j
  simp only [va_up, zS, show (0 : Int32).toNatClampNeg = 0 from by decide, show (1 : Int32).toNatClampNeg = 1 from by decide, show (2 : Int32).toNatClampNeg = 2 from by decide, show (3 : Int32).toNatClampNeg = 3 from by decide, show (4 : Int32).toNatClampNeg = 4 from by decide, show (5 : Int32).toNatClampNeg = 5 from by decide, show (6 : Int32).toNatClampNeg = 6 from by decide, show (7 : Int32).toNatClampNeg = 7 from by decide]
  by_cases h : j < 8
  · rcases zj8 h with rfl | rfl | rfl | rfl | rfl | rfl | rfl | rfl <;> rfl
  · rw [if_neg (by omega), if_neg (by omega), if_neg (by omega), if_neg (by omega), if_neg (by omega), if_neg (by omega), if_neg (by omega), if_neg (by omega), if_neg h]
theorem zt_eqi {args : Array Value} {s : State} {t : Term} {z : Int32} (h : (Cond.eq t (.int z)).before args s = true) : t.eval args s none [] s = some (.int z) := by
  cases hv : t.eval args s none [] s with
  | none => simp [Cond.before, Cond.holds, Cond.value, hv] at h
  | some w =>
    have hz : (Term.int z).eval args s none [] s = some (.int z) := rfl
    simp only [Cond.before, Cond.holds, Cond.value, hv, hz] at h
    cases w <;> simp_all
theorem zA_prim {args : Array Value} {s : State} {ty : FieldType} (h : (Cond.arrayClass ty).before args s = true) (hty : ∀ C, ty ≠ .object C) : ∃ cA : ClassId, ArrOfT s cA ty ∧ va_RA s cA ty := by
  obtain ⟨cA, kA, comp, h1, h2, h3⟩ := Cond.arrayClass_spec h
  refine ⟨cA, fun n z => ⟨fun k h => (by cases h), kA, h2, comp, h3⟩, ?_⟩
  cases ty with
  | object C => exact absurd rfl (hty C)
  | _ => exact h1
theorem zA_ref {args : Array Value} {s : State} {C : String} (h : (Cond.arrayOver (.object C)).before args s = true) : ∃ cA : ClassId, ArrOfT s cA (.object C) ∧ va_RA s cA (.object C) := by
  obtain ⟨comp, c, k, h1, -, h3, h4, h5⟩ := Cond.arrayOver_spec h
  exact ⟨c, fun n z => ⟨fun k h => (by cases h), k, h3, comp, h4⟩, k, comp, h3, h4, h1, h5⟩
/-! THE CLAIM OUT OF ONE WALK OF THE LAW'S BODY. Your part is whole_start (and what it stands on); all else here is the same for every law, but numbers. -/
def R_law : String := "TheLiningsInItLaw"
def lw_P (b : Addr) (xs : List Int32) (args : Array Value) (s : State) : Prop := args = #[.ref b] ∧ s.IntsAt b xs ∧ xs.length ≤ 3072 ∧ (Jvm.Cond.and given_1 narrow_1).before args s = true
def lw_Q (_ : Array Value) (s : State) (o : Outcome) (t : State) : Prop := o = .returned (some (.int 1)) ∧ Framed s o t [] 600000 7302250
def lw_Z (below : List Frame) (a : Array Value) (s : State) : State → Prop := fun t => ∃ o, t.status = .running ∧ Ended t below o ∧ lw_Q a s o t
/-- the law's own end, with 1 on the stack, nothing written that was there before, its room as the claim has it -/
theorem lw_ret {p : Program} {l : Launch} {e : Env} {s : State} {m : MethodId} {below : List Frame} {meth : Method} {c : Code} {b : Nat} (hx : p.tables.exec = Jvm.exec) (hb : c.code = code) (hr : meth.sig.returnType = ret) (hlocks : meth.locks = false) {pc : Nat} {H : Heap} {ls : Array Slot} (hdg : decode code pc = .ok (.ireturn, 1)) : W p l e room_1 s m #[Value.ref b] below meth c H [] 600000 7302250 (lw_Z below #[Value.ref b] s) (F0 m pc ls [.int 1]) := by
  intro T hT X
  obtain ⟨fs, hret, hrun, hended, hW, hframe⟩ := X.leave (v := some (.int 1)) (hlocks := hlocks) (fun h => by rw [hr] at h; cases h)
  have hmeth' : T.vm.method? m = some meth := X.method'
  refine ⟨T.setFrames fs, ?_, .returned (some (.int 1)), hrun, hended, rfl, ⟨_, rfl⟩, hW, hframe⟩
  jvm_step X.here [X.here.top, hx, hb, hdg, hmeth', hr, ret, narrow_b1]
  (try refine ⟨rfl, ?_⟩); (try refine ⟨rfl, ?_⟩)
  first | (intro acts; rw [hret _ acts rfl rfl rfl]) | rw [hret _ _ rfl rfl rfl]
  exact Steps.refl _
/-- what holds at the law's entry: the machine, the code, the tables' words (any of lw_tbl by 'hts w (by decide +kernel)'), the script of L ints xs at the cell b, what the Statement gives of the start (any of its parts by flat_of_before) -/
def lw_At (p : Program) (s : State) (m : MethodId) (meth : Method) (c : Code) (b L : Nat) (xs : Nat → Int32) : Prop :=
  p.tables.exec = Jvm.exec ∧ c.code = code ∧ meth.sig.returnType = ret ∧ c.maxLocals = 4 ∧ s.vm.findClass R_law = some m.cls ∧ (∀ w ∈ lw_tbl, w.before #[Value.ref b] s = true) ∧ va_X b L xs s s.heap ∧ b < s.heap.size ∧ meth.locks = false ∧ (Jvm.Cond.and given_1 narrow_1).before #[Value.ref b] s = true
/-- the loop's foot, from every state that the invariant allows -/
def zNx (p : Program) (l : Launch) (e : Env) (s : State) (m : MethodId) (below : List Frame) (meth : Method) (c : Code) (D : va_G) (cI cJ cZ cP cS : ClassId) (b : Nat) (x0 xs j0 k0 w0 rd mv xr z0 jp jc zl zs kz kp kc kzl kzs wk wl wc wp ri rl mb m0 mrf mki mpa mta mla msl mco mhe mso msi msh mce mca mwo mnu mte mwa mke mma mth mtr : Nat) (sh el : Nat → Nat) (n : Nat) (i : Int32) : Prop :=
  ∀ (po : zPool) (im lf cn de tr se hu sd sz at_ gp kcn kde ktr kse khu ksd ksz kat kgp wn wh wg rz rc rp rf rt ru mr mk mm mq npu nte nat_ nde nto nse nhu nga nsd nfa nba npl nen nnu nwr nra nik : Int32) (fzl fzs fjc fkzl fkzs fkc fwk fwl fwc fri frl fmb fxr grf gki gpa gta gla gsl gco ghe gso gsi gsh gwo gnu gte gwa gke gma gth gtr he si kf af tf kkf kaf ktf : Nat → Int32) (gce gca : Nat → Int64) (fp fkp fq : Nat → Option Nat) (fe : Nat → Nat → Int64) (b_im : 0 ≤ im.toInt ∧ im.toInt ≤ 1) (b_lf : (-1) ≤ lf.toInt ∧ lf.toInt ≤ 160) (b_cn : 0 ≤ cn.toInt ∧ cn.toInt ≤ 8) (b_de : 0 ≤ de.toInt ∧ de.toInt ≤ 24) (b_hu : 0 ≤ hu.toInt ∧ hu.toInt ≤ 9) (b_sz : 4 ≤ sz.toInt ∧ sz.toInt ≤ 40) (b_at_ : 0 ≤ at_.toInt ∧ at_.toInt ≤ 40) (b_gp : 1 ≤ gp.toInt ∧ gp.toInt ≤ 9) (b_kcn : 0 ≤ kcn.toInt ∧ kcn.toInt ≤ 8) (b_kde : 0 ≤ kde.toInt ∧ kde.toInt ≤ 24) (b_khu : 0 ≤ khu.toInt ∧ khu.toInt ≤ 9) (b_ksz : 4 ≤ ksz.toInt ∧ ksz.toInt ≤ 40) (b_kat : 0 ≤ kat.toInt ∧ kat.toInt ≤ 40) (b_kgp : 1 ≤ kgp.toInt ∧ kgp.toInt ≤ 9) (b_wn : 0 ≤ wn.toInt ∧ wn.toInt ≤ 8) (b_wh : 0 ≤ wh.toInt ∧ wh.toInt ≤ 9) (b_wg : 0 ≤ wg.toInt ∧ wg.toInt ≤ 60) (b_rz : 0 ≤ rz.toInt ∧ rz.toInt ≤ 160) (b_rc : 0 ≤ rc.toInt ∧ rc.toInt ≤ 33) (b_rp : 0 ≤ rp.toInt ∧ rp.toInt ≤ 160) (b_rf : (-1) ≤ rf.toInt ∧ rf.toInt ≤ 160) (b_rt : 0 ≤ rt.toInt ∧ rt.toInt ≤ 40) (b_ru : 0 ≤ ru.toInt ∧ ru.toInt ≤ 8) (b_mr : 0 ≤ mr.toInt ∧ mr.toInt ≤ 2000) (b_npu : 0 ≤ npu.toInt ∧ npu.toInt ≤ 8) (b_nte : 4 ≤ nte.toInt ∧ nte.toInt ≤ 40) (b_nat_ : 0 ≤ nat_.toInt ∧ nat_.toInt ≤ 40) (b_nde : 0 ≤ nde.toInt ∧ nde.toInt ≤ 24) (b_nhu : 0 ≤ nhu.toInt ∧ nhu.toInt ≤ 9) (b_nra : 0 ≤ nra.toInt ∧ nra.toInt ≤ 2000) (b_nik : 0 ≤ nik.toInt ∧ nik.toInt ≤ 1) (b_rprz : rp.toInt ≤ rz.toInt) (hp_fzl : zRg fzl (0) 1) (hp_fzs : zRg fzs (0) 9) (hp_fjc : zRg fjc (0) 99) (hp_fkzl : zRg fkzl (0) 1) (hp_fkzs : zRg fkzs (0) 9) (hp_fkc : zRg fkc (0) 99) (hp_fwc : zRg fwc (0) 99) (hp_gki : zRg gki (0) 6) (hp_gpa : zRg gpa (0) 9) (hp_gta : zRg gta (0) 60) (hp_gla : zRg gla (0) 1) (hp_gsl : zRg gsl (0) 9) (hp_gco : zRg gco (0) 99) (hp_ghe : zRg ghe (0) 2) (hp_gso : zRg gso (0) 3) (hp_gsi : zRg gsi (0) 160) (hp_gsh : zRg gsh (-1) 7) (hp_he : zRg he (-1) 103) (hp_si : zRg si (0) 160) (hjp : zJP po fp cn kf af tf) (hjwp : zWP po fp) (hkjp : zJP po fkp kcn kkf kaf ktf) (hkwp : zWP po fkp) (hwq : zWP po fq) (hHS : zHS ghe gsh) (hwo : zHWo gwo) (hnu : zHNu gnu) (hik : (nik.toInt = 1 → zKp gke)) (hR : zRel he si fe ghe gso gsi gsh gce) (hcn : cn.toInt = npu.toInt) (hsz : sz.toInt = nte.toInt) (him : im.toInt = nik.toInt) (hlf : lf.toInt = nfa.toInt) (hkq : (nik.toInt = 1 → kcn.toInt = (gke 107).toInt ∧ ksz.toInt = (gke 108).toInt)) (hz2 : zStr po (fun q : Nat => s.heap.size ≤ q) s s.heap) (hpr : ∀ z ∈ po.1, zPr z.2.1 z.2.2.1 z.2.2.2) (nkc nks : Nat) (hkc : nkc ≤ 100 + 40 * (n + 1)) (hks : nks ≤ 10000 + 120 * (n + 1)) (H : Heap) (locs : List Loc) (hP : va_P D vwCl (((x0, .inr (7, [.ref xs, .ref j0, .ref k0, .ref w0, .ref rd, .ref mv, .ref xr, .int im, .int lf])) :: (xs, .inl (cS, 8, .inr (.inr (.inr (.inr (zS sh)))))) :: (j0, .inr (0, [.ref z0, .ref jp, .ref jc, .int cn, .int de, .int tr, .int se, .int hu, .int sd])) :: (z0, .inr (6, [.ref zl, .ref zs, .int sz, .int at_, .int gp])) :: (zl, .inl (cZ, 40, .inl fzl)) :: (zs, .inl (cI, 40, .inl fzs)) :: (jp, .inl (cP, 8, .inr (.inr (.inr (.inr fp))))) :: (jc, .inl (cI, 3, .inl fjc)) :: (k0, .inr (0, [.ref kz, .ref kp, .ref kc, .int kcn, .int kde, .int ktr, .int kse, .int khu, .int ksd])) :: (kz, .inr (6, [.ref kzl, .ref kzs, .int ksz, .int kat, .int kgp])) :: (kzl, .inl (cZ, 40, .inl fkzl)) :: (kzs, .inl (cI, 40, .inl fkzs)) :: (kp, .inl (cP, 8, .inr (.inr (.inr (.inr fkp))))) :: (kc, .inl (cI, 3, .inl fkc)) :: (w0, .inr (5, [.ref wk, .ref wl, .ref wc, .ref wp, .int wn, .int wh, .int wg])) :: (wk, .inl (cI, 125, .inl fwk)) :: (wl, .inl (cI, 125, .inl fwl)) :: (wc, .inl (cI, 3, .inl fwc)) :: (wp, .inl (cP, 8, .inr (.inr (.inr (.inr fq))))) :: (rd, .inr (3, [.ref ri, .ref rl, .int rz, .int rc, .int rp, .int rf, .int rt, .int ru])) :: (ri, .inl (cI, 132, .inl fri)) :: (rl, .inl (cI, 160, .inl frl)) :: (mv, .inr (1, [.ref mb, .int mr, .int mk, .int mm, .int mq])) :: (mb, .inl (cI, 20, .inl fmb)) :: (xr, .inl (cI, 8, .inl fxr)) :: (zMO m0 npu nte nat_ nde nto nse nhu nga nsd nfa mrf mki mpa mta mla msl mco mhe mso msi msh mce mca mwo mnu mte nba npl nen nnu nwr mwa mke mma mth mtr nra nik) :: (mrf, .inl (cI, 8, .inl grf)) :: (mki, .inl (cI, 8, .inl gki)) :: (mpa, .inl (cI, 8, .inl gpa)) :: (mta, .inl (cI, 8, .inl gta)) :: (mla, .inl (cI, 40, .inl gla)) :: (msl, .inl (cI, 40, .inl gsl)) :: (mco, .inl (cI, 3, .inl gco)) :: (mhe, .inl (cI, 8, .inl ghe)) :: (mso, .inl (cI, 8, .inl gso)) :: (msi, .inl (cI, 8, .inl gsi)) :: (msh, .inl (cI, 8, .inl gsh)) :: (mce, .inl (cJ, 1280, .inr (.inl gce))) :: (mca, .inl (cJ, 160, .inr (.inl gca))) :: (mwo, .inl (cI, 64, .inl gwo)) :: (mnu, .inl (cI, 10, .inl gnu)) :: (mte, .inl (cI, 3, .inl gte)) :: (mwa, .inl (cI, 130, .inl gwa)) :: (mke, .inl (cI, 130, .inl gke)) :: (mma, .inl (cI, 3, .inl gma)) :: (mth, .inl (cI, 3, .inl gth)) :: (mtr, .inl (cI, 20, .inl gtr)) :: []) ++ (zShW cJ sh el he si fe ++ po.1.map zPo)) H) (hD : va_D (fun q : Nat => s.heap.size ≤ q) (((x0, .inr (7, [.ref xs, .ref j0, .ref k0, .ref w0, .ref rd, .ref mv, .ref xr, .int im, .int lf])) :: (xs, .inl (cS, 8, .inr (.inr (.inr (.inr (zS sh)))))) :: (j0, .inr (0, [.ref z0, .ref jp, .ref jc, .int cn, .int de, .int tr, .int se, .int hu, .int sd])) :: (z0, .inr (6, [.ref zl, .ref zs, .int sz, .int at_, .int gp])) :: (zl, .inl (cZ, 40, .inl fzl)) :: (zs, .inl (cI, 40, .inl fzs)) :: (jp, .inl (cP, 8, .inr (.inr (.inr (.inr fp))))) :: (jc, .inl (cI, 3, .inl fjc)) :: (k0, .inr (0, [.ref kz, .ref kp, .ref kc, .int kcn, .int kde, .int ktr, .int kse, .int khu, .int ksd])) :: (kz, .inr (6, [.ref kzl, .ref kzs, .int ksz, .int kat, .int kgp])) :: (kzl, .inl (cZ, 40, .inl fkzl)) :: (kzs, .inl (cI, 40, .inl fkzs)) :: (kp, .inl (cP, 8, .inr (.inr (.inr (.inr fkp))))) :: (kc, .inl (cI, 3, .inl fkc)) :: (w0, .inr (5, [.ref wk, .ref wl, .ref wc, .ref wp, .int wn, .int wh, .int wg])) :: (wk, .inl (cI, 125, .inl fwk)) :: (wl, .inl (cI, 125, .inl fwl)) :: (wc, .inl (cI, 3, .inl fwc)) :: (wp, .inl (cP, 8, .inr (.inr (.inr (.inr fq))))) :: (rd, .inr (3, [.ref ri, .ref rl, .int rz, .int rc, .int rp, .int rf, .int rt, .int ru])) :: (ri, .inl (cI, 132, .inl fri)) :: (rl, .inl (cI, 160, .inl frl)) :: (mv, .inr (1, [.ref mb, .int mr, .int mk, .int mm, .int mq])) :: (mb, .inl (cI, 20, .inl fmb)) :: (xr, .inl (cI, 8, .inl fxr)) :: (zMO m0 npu nte nat_ nde nto nse nhu nga nsd nfa mrf mki mpa mta mla msl mco mhe mso msi msh mce mca mwo mnu mte nba npl nen nnu nwr mwa mke mma mth mtr nra nik) :: (mrf, .inl (cI, 8, .inl grf)) :: (mki, .inl (cI, 8, .inl gki)) :: (mpa, .inl (cI, 8, .inl gpa)) :: (mta, .inl (cI, 8, .inl gta)) :: (mla, .inl (cI, 40, .inl gla)) :: (msl, .inl (cI, 40, .inl gsl)) :: (mco, .inl (cI, 3, .inl gco)) :: (mhe, .inl (cI, 8, .inl ghe)) :: (mso, .inl (cI, 8, .inl gso)) :: (msi, .inl (cI, 8, .inl gsi)) :: (msh, .inl (cI, 8, .inl gsh)) :: (mce, .inl (cJ, 1280, .inr (.inl gce))) :: (mca, .inl (cJ, 160, .inr (.inl gca))) :: (mwo, .inl (cI, 64, .inl gwo)) :: (mnu, .inl (cI, 10, .inl gnu)) :: (mte, .inl (cI, 3, .inl gte)) :: (mwa, .inl (cI, 130, .inl gwa)) :: (mke, .inl (cI, 130, .inl gke)) :: (mma, .inl (cI, 3, .inl gma)) :: (mth, .inl (cI, 3, .inl gth)) :: (mtr, .inl (cI, 20, .inl gtr)) :: []) ++ (zShW cJ sh el he si fe ++ po.1.map zPo))) (hS : va_S (fun q : Nat => s.heap.size ≤ q) s.heap H locs) (ls : Array Slot) (hl : lv_has ls 4 [(3, .int i), (2, .ref m0), (1, .ref x0), (0, .ref b)]), W p l e room_1 s m #[Value.ref b] below meth c H locs nkc nks (lw_Z below #[Value.ref b] s) (F0 m 1370 ls [])
def zPick (ws : va_W) (is : List Nat) : va_W := is.filterMap (fun i => ws[i]?)
theorem zPick_mem {ws : va_W} {is : List Nat} {q : Nat × va_E} (h : q ∈ zPick ws is) : ∃ i : Nat, i ∈ is ∧ ws[i]? = some q := List.mem_filterMap.mp h
theorem zP_of_mem {D : va_G} {cl : List vw_C} {ws ws' : va_W} {H : Heap} (h : va_P D cl ws H) (p : ∀ q ∈ ws', q ∈ ws) : va_P D cl ws' H := fun k q hk => by
  obtain ⟨i, hi⟩ := List.getElem?_of_mem (p q (List.mem_of_getElem? hk))
  exact h i q hi
theorem zSplitP {D : va_G} {cl : List vw_C} {ws Z T : va_W} {H : Heap} (h : va_P D cl (ws ++ (Z ++ T)) H) (is js : List Nat) : va_P D cl (zPick ws is ++ ((Z ++ zPick ws js) ++ T)) H := zP_of_mem h (fun q hq => by
  simp only [List.mem_append] at hq ⊢
  rcases hq with hq | (hq | hq) | hq
  · obtain ⟨i, -, hi⟩ := zPick_mem hq
    exact Or.inl (List.mem_of_getElem? hi)
  · exact Or.inr (Or.inl hq)
  · obtain ⟨i, -, hi⟩ := zPick_mem hq
    exact Or.inl (List.mem_of_getElem? hi)
  · exact Or.inr (Or.inr hq))
theorem zPick_app {ws : va_W} {is js : List Nat} : zPick ws (is ++ js) = zPick ws is ++ zPick ws js := List.filterMap_append
theorem zPick_nd {A : Nat → Prop} {ws : va_W} (h : va_D A ws) : ∀ (is : List Nat), is.Nodup → va_D A (zPick ws is)
  | [], _ => zD_nil
  | i :: is, hn => by
    have h2 := zPick_nd h is (List.nodup_cons.mp hn).2
    cases e : ws[i]? with
    | none => simpa [zPick, e] using h2
    | some q =>
      have e2 : zPick ws (i :: is) = q :: zPick ws is := by simp [zPick, e]
      rw [e2, zD_iff]
      rw [zD_iff] at h2
      refine ⟨?_, fun r hr => ?_⟩
      · rw [List.map_cons, List.nodup_cons]
        refine ⟨fun hm => ?_, h2.1⟩
        obtain ⟨r, hr, he⟩ := List.mem_map.mp hm
        obtain ⟨j, hj, hjr⟩ := zPick_mem hr
        have : i = j := h.1 i j q r e hjr he.symm
        exact (List.nodup_cons.mp hn).1 (this ▸ hj)
      · rcases List.mem_cons.mp hr with rfl | hr
        · exact h.2 i _ e
        · exact h2.2 r hr
theorem zD_left {A : Nat → Prop} {a b : va_W} (h : va_D A (a ++ b)) : va_D A a := by
  rw [zD_iff] at h ⊢
  rw [List.map_append] at h
  exact ⟨(List.nodup_append.mp h.1).1, fun q hq => h.2 q (List.mem_append_left _ hq)⟩
theorem zD_swap {A : Nat → Prop} {a a' b : va_W} (h : va_D A (a ++ b)) (h2 : va_D A a') (hs : ∀ q ∈ a', q ∈ a) : va_D A (a' ++ b) := by
  rw [zD_iff] at h h2 ⊢
  rw [List.map_append] at h ⊢
  obtain ⟨h1, h3⟩ := h
  obtain ⟨n1, n2, n3⟩ := List.nodup_append.mp h1
  refine ⟨List.nodup_append.mpr ⟨h2.1, n2, fun x hx y hy => ?_⟩, fun q hq => ?_⟩
  · obtain ⟨q, hq, rfl⟩ := List.mem_map.mp hx
    exact n3 q.1 (List.mem_map.mpr ⟨q, hs q hq, rfl⟩) y hy
  · rcases List.mem_append.mp hq with hq | hq
    · exact h2.2 q hq
    · exact h3 q (List.mem_append_right _ hq)
theorem zMv (N R Z T : va_W) : ((N ++ R) ++ (Z ++ T)).Perm (N ++ ((Z ++ R) ++ T)) := by
  rw [List.append_assoc]
  refine List.Perm.append_left N ?_
  rw [← List.append_assoc]
  exact List.perm_append_comm.append_right T
theorem zSplitD {A : Nat → Prop} {ws Z T : va_W} (h : va_D A (ws ++ (Z ++ T))) (is js : List Nat) (hn : (is ++ js).Nodup) : va_D A (zPick ws is ++ ((Z ++ zPick ws js) ++ T)) := by
  have h1 := zPick_nd (zD_left h) (is ++ js) hn
  rw [zPick_app] at h1
  have h2 : ∀ q ∈ zPick ws is ++ zPick ws js, q ∈ ws := fun q hq => by
    rw [← zPick_app] at hq
    obtain ⟨i, -, hi⟩ := zPick_mem hq
    exact List.mem_of_getElem? hi
  exact zD_perm (zD_swap h h1 h2) (zMv _ _ _ _)
theorem zJoinP {D : va_G} {cl : List vw_C} {N R Z T ws : va_W} {H : Heap} (h : va_P D cl (N ++ ((Z ++ R) ++ T)) H) (is : List Nat) (he : ws = zPick (N ++ R) is) : va_P D cl (ws ++ (Z ++ T)) H := by
  subst he
  refine zP_of_mem h (fun q hq => ?_)
  rcases List.mem_append.mp hq with hq | hq
  · obtain ⟨i, -, hi⟩ := zPick_mem hq
    have := List.mem_of_getElem? hi
    simp only [List.mem_append] at this ⊢
    rcases this with h1 | h1
    · exact Or.inl h1
    · exact Or.inr (Or.inl (Or.inr h1))
  · simp only [List.mem_append] at hq ⊢
    rcases hq with h1 | h1
    · exact Or.inr (Or.inl (Or.inl h1))
    · exact Or.inr (Or.inr h1)
theorem zJoinD {A : Nat → Prop} {N R Z T ws : va_W} (h : va_D A (N ++ ((Z ++ R) ++ T))) (is : List Nat) (hn : is.Nodup) (he : ws = zPick (N ++ R) is) : va_D A (ws ++ (Z ++ T)) := by
  subst he
  have h1 := zD_perm h (zMv N R Z T).symm
  refine zD_swap h1 (zPick_nd (zD_left h1) is hn) (fun q hq => ?_)
  obtain ⟨i, -, hi⟩ := zPick_mem hq
  exact List.mem_of_getElem? hi
theorem zNik1 {a : Int} (h : 0 ≤ a ∧ a ≤ 1) (h2 : a ≠ 0) : a = 1 := by omega
theorem zRmC {nkc n L k : Nat} (h : nkc ≤ 100 + 40 * n) (hn : 6 * (n : Int) + 6 ≤ (L : Int)) (hL : L ≤ 3072) (hk : k ≤ 200) : nkc + k ≤ 600000 := by omega
theorem zRmS {nks n L k : Nat} (h : nks ≤ 10000 + 120 * n) (hn : 6 * (n : Int) + 6 ≤ (L : Int)) (hL : L ≤ 3072) (hk : k ≤ 200) : nks + k ≤ 7302250 := by omega
theorem zRmN {nkc n : Nat} (h : nkc ≤ 100 + 40 * n) : nkc ≤ 100 + 40 * (n + 1) := by omega
theorem zRmM {nks n : Nat} (h : nks ≤ 10000 + 120 * n) : nks ≤ 10000 + 120 * (n + 1) := by omega
theorem zRsE {X Z So P : va_W} : ((X ++ Z) ++ (So ++ P)) = (X ++ ((Z ++ So) ++ P)) := by simp only [List.append_assoc]
theorem zSo_pout {cJ : ClassId} {sh el : Nat → Nat} {he si : Nat → Int32} {fe : Nat → Nat → Int64} {j : Nat} (hj : j < 8) (X So T : va_W) : (X ++ ((zShW cJ sh el he si fe ++ So) ++ T)).Perm ((X ++ [(sh j, .inr (4, [.ref (el j), .int (he j), .int (si j)])), (el j, .inl (cJ, 160, .inr (.inl (fe j))))]) ++ ((zShR cJ sh el he si fe j ++ So) ++ T)) := by
  rw [List.append_assoc (zShW cJ sh el he si fe), List.append_assoc (zShR cJ sh el he si fe j)]
  exact zSh_pout hj X (So ++ T)
theorem zSo_pin {cJ : ClassId} {sh el : Nat → Nat} {he si : Nat → Int32} {fe : Nat → Nat → Int64} {j : Nat} (hj : j < 8) (X So T : va_W) (v w : Int32) (g : Nat → Int64) : ((X ++ ([(sh j, .inr (4, [.ref (el j), .int v, .int w])), (el j, .inl (cJ, 160, .inr (.inl g)))] : va_W)) ++ ((zShR cJ sh el he si fe j ++ So) ++ T)).Perm (X ++ ((zShW cJ sh el (va_up he j v) (va_up si j w) (va_up fe j g) ++ So) ++ T)) := by
  rw [List.append_assoc (zShW cJ sh el (va_up he j v) (va_up si j w) (va_up fe j g)), List.append_assoc (zShR cJ sh el he si fe j)]
  exact zSh_pin hj X (So ++ T) v w g
theorem zSo_pout2 {cJ : ClassId} {sh el : Nat → Nat} {he si : Nat → Int32} {fe : Nat → Nat → Int64} {j k : Nat} (hj : j < 8) (hk : k < 8) (hjk : k ≠ j) (X So T : va_W) : (X ++ ((zShW cJ sh el he si fe ++ So) ++ T)).Perm ((X ++ [(sh j, .inr (4, [.ref (el j), .int (he j), .int (si j)])), (el j, .inl (cJ, 160, .inr (.inl (fe j)))), (sh k, .inr (4, [.ref (el k), .int (he k), .int (si k)])), (el k, .inl (cJ, 160, .inr (.inl (fe k))))]) ++ ((zShR2 cJ sh el he si fe j k ++ So) ++ T)) := by
  rw [List.append_assoc (zShW cJ sh el he si fe), List.append_assoc (zShR2 cJ sh el he si fe j k)]
  exact zSh_pout2 hj hk hjk X (So ++ T)
theorem zSo_pin2 {cJ : ClassId} {sh el : Nat → Nat} {he si : Nat → Int32} {fe : Nat → Nat → Int64} {j k : Nat} (hj : j < 8) (hk : k < 8) (hjk : k ≠ j) (X So T : va_W) (g : Nat → Int64) : ((X ++ ([(sh j, .inr (4, [.ref (el j), .int (he j), .int (si j)])), (el j, .inl (cJ, 160, .inr (.inl (fe j)))), (sh k, .inr (4, [.ref (el k), .int (he k), .int (si k)])), (el k, .inl (cJ, 160, .inr (.inl g)))] : va_W)) ++ ((zShR2 cJ sh el he si fe j k ++ So) ++ T)).Perm (X ++ ((zShW cJ sh el he si (va_up fe k g) ++ So) ++ T)) := by
  rw [List.append_assoc (zShW cJ sh el he si (va_up fe k g)), List.append_assoc (zShR2 cJ sh el he si fe j k)]
  exact zSh_pin2 hj hk hjk X (So ++ T) g
/-- a call's case of the law, from the place pc of its code -/
def zCs (pc : Nat) : Prop := ∀ {p : Program} {l : Launch} {e : Env} {s : State} {m : MethodId} {below : List Frame} {meth : Method} {c : Code} {D : va_G} {cI cJ cZ cP cS : ClassId} {b L : Nat} {xs_ : Nat → Int32} (x0 xs j0 k0 w0 rd mv xr z0 jp jc zl zs kz kp kc kzl kzs wk wl wc wp ri rl mb m0 mrf mki mpa mta mla msl mco mhe mso msi msh mce mca mwo mnu mte mwa mke mma mth mtr : Nat) (sh el : Nat → Nat) (n nkc nks : Nat) (i : Int32) (po : zPool) (im lf cn de tr se hu sd sz at_ gp kcn kde ktr kse khu ksd ksz kat kgp wn wh wg rz rc rp rf rt ru mr mk mm mq npu nte nat_ nde nto nse nhu nga nsd nfa nba npl nen nnu nwr nra nik : Int32) (fzl fzs fjc fkzl fkzs fkc fwk fwl fwc fri frl fmb fxr grf gki gpa gta gla gsl gco ghe gso gsi gsh gwo gnu gte gwa gke gma gth gtr he si kf af tf kkf kaf ktf : Nat → Int32) (gce gca : Nat → Int64) (fp fkp fq : Nat → Option Nat) (fe : Nat → Nat → Int64) (C0 : lw_At p s m meth c b L xs_) (hK : va_K D vwCl (zKT cI cJ cZ cP cS) s) (hN : zN s) (hz1 : zSt (fun q : Nat => s.heap.size ≤ q) s s.heap) (hL : L ≤ 3072) (b_im : 0 ≤ im.toInt ∧ im.toInt ≤ 1) (b_lf : (-1) ≤ lf.toInt ∧ lf.toInt ≤ 160) (b_cn : 0 ≤ cn.toInt ∧ cn.toInt ≤ 8) (b_de : 0 ≤ de.toInt ∧ de.toInt ≤ 24) (b_hu : 0 ≤ hu.toInt ∧ hu.toInt ≤ 9) (b_sz : 4 ≤ sz.toInt ∧ sz.toInt ≤ 40) (b_at_ : 0 ≤ at_.toInt ∧ at_.toInt ≤ 40) (b_gp : 1 ≤ gp.toInt ∧ gp.toInt ≤ 9) (b_kcn : 0 ≤ kcn.toInt ∧ kcn.toInt ≤ 8) (b_kde : 0 ≤ kde.toInt ∧ kde.toInt ≤ 24) (b_khu : 0 ≤ khu.toInt ∧ khu.toInt ≤ 9) (b_ksz : 4 ≤ ksz.toInt ∧ ksz.toInt ≤ 40) (b_kat : 0 ≤ kat.toInt ∧ kat.toInt ≤ 40) (b_kgp : 1 ≤ kgp.toInt ∧ kgp.toInt ≤ 9) (b_wn : 0 ≤ wn.toInt ∧ wn.toInt ≤ 8) (b_wh : 0 ≤ wh.toInt ∧ wh.toInt ≤ 9) (b_wg : 0 ≤ wg.toInt ∧ wg.toInt ≤ 60) (b_rz : 0 ≤ rz.toInt ∧ rz.toInt ≤ 160) (b_rc : 0 ≤ rc.toInt ∧ rc.toInt ≤ 33) (b_rp : 0 ≤ rp.toInt ∧ rp.toInt ≤ 160) (b_rf : (-1) ≤ rf.toInt ∧ rf.toInt ≤ 160) (b_rt : 0 ≤ rt.toInt ∧ rt.toInt ≤ 40) (b_ru : 0 ≤ ru.toInt ∧ ru.toInt ≤ 8) (b_mr : 0 ≤ mr.toInt ∧ mr.toInt ≤ 2000) (b_npu : 0 ≤ npu.toInt ∧ npu.toInt ≤ 8) (b_nte : 4 ≤ nte.toInt ∧ nte.toInt ≤ 40) (b_nat_ : 0 ≤ nat_.toInt ∧ nat_.toInt ≤ 40) (b_nde : 0 ≤ nde.toInt ∧ nde.toInt ≤ 24) (b_nhu : 0 ≤ nhu.toInt ∧ nhu.toInt ≤ 9) (b_nra : 0 ≤ nra.toInt ∧ nra.toInt ≤ 2000) (b_nik : 0 ≤ nik.toInt ∧ nik.toInt ≤ 1) (b_rprz : rp.toInt ≤ rz.toInt) (hp_fzl : zRg fzl (0) 1) (hp_fzs : zRg fzs (0) 9) (hp_fjc : zRg fjc (0) 99) (hp_fkzl : zRg fkzl (0) 1) (hp_fkzs : zRg fkzs (0) 9) (hp_fkc : zRg fkc (0) 99) (hp_fwc : zRg fwc (0) 99) (hp_gki : zRg gki (0) 6) (hp_gpa : zRg gpa (0) 9) (hp_gta : zRg gta (0) 60) (hp_gla : zRg gla (0) 1) (hp_gsl : zRg gsl (0) 9) (hp_gco : zRg gco (0) 99) (hp_ghe : zRg ghe (0) 2) (hp_gso : zRg gso (0) 3) (hp_gsi : zRg gsi (0) 160) (hp_gsh : zRg gsh (-1) 7) (hp_he : zRg he (-1) 103) (hp_si : zRg si (0) 160) (hjp : zJP po fp cn kf af tf) (hjwp : zWP po fp) (hkjp : zJP po fkp kcn kkf kaf ktf) (hkwp : zWP po fkp) (hwq : zWP po fq) (hHS : zHS ghe gsh) (hwo : zHWo gwo) (hnu : zHNu gnu) (hik : (nik.toInt = 1 → zKp gke)) (hR : zRel he si fe ghe gso gsi gsh gce) (hcn : cn.toInt = npu.toInt) (hsz : sz.toInt = nte.toInt) (him : im.toInt = nik.toInt) (hlf : lf.toInt = nfa.toInt) (hkq : (nik.toInt = 1 → kcn.toInt = (gke 107).toInt ∧ ksz.toInt = (gke 108).toInt)) (hz2 : zStr po (fun q : Nat => s.heap.size ≤ q) s s.heap) (hpr : ∀ z ∈ po.1, zPr z.2.1 z.2.2.1 z.2.2.2) (hkc : nkc ≤ 100 + 40 * n) (hks : nks ≤ 10000 + 120 * n) (hi6 : i.toInt = 6 * (n : Int)) (hn6 : 6 * (n : Int) + 6 ≤ (L : Int)) (H : Heap) (locs : List Loc) (hP : va_P D vwCl (((x0, .inr (7, [.ref xs, .ref j0, .ref k0, .ref w0, .ref rd, .ref mv, .ref xr, .int im, .int lf])) :: (xs, .inl (cS, 8, .inr (.inr (.inr (.inr (zS sh)))))) :: (j0, .inr (0, [.ref z0, .ref jp, .ref jc, .int cn, .int de, .int tr, .int se, .int hu, .int sd])) :: (z0, .inr (6, [.ref zl, .ref zs, .int sz, .int at_, .int gp])) :: (zl, .inl (cZ, 40, .inl fzl)) :: (zs, .inl (cI, 40, .inl fzs)) :: (jp, .inl (cP, 8, .inr (.inr (.inr (.inr fp))))) :: (jc, .inl (cI, 3, .inl fjc)) :: (k0, .inr (0, [.ref kz, .ref kp, .ref kc, .int kcn, .int kde, .int ktr, .int kse, .int khu, .int ksd])) :: (kz, .inr (6, [.ref kzl, .ref kzs, .int ksz, .int kat, .int kgp])) :: (kzl, .inl (cZ, 40, .inl fkzl)) :: (kzs, .inl (cI, 40, .inl fkzs)) :: (kp, .inl (cP, 8, .inr (.inr (.inr (.inr fkp))))) :: (kc, .inl (cI, 3, .inl fkc)) :: (w0, .inr (5, [.ref wk, .ref wl, .ref wc, .ref wp, .int wn, .int wh, .int wg])) :: (wk, .inl (cI, 125, .inl fwk)) :: (wl, .inl (cI, 125, .inl fwl)) :: (wc, .inl (cI, 3, .inl fwc)) :: (wp, .inl (cP, 8, .inr (.inr (.inr (.inr fq))))) :: (rd, .inr (3, [.ref ri, .ref rl, .int rz, .int rc, .int rp, .int rf, .int rt, .int ru])) :: (ri, .inl (cI, 132, .inl fri)) :: (rl, .inl (cI, 160, .inl frl)) :: (mv, .inr (1, [.ref mb, .int mr, .int mk, .int mm, .int mq])) :: (mb, .inl (cI, 20, .inl fmb)) :: (xr, .inl (cI, 8, .inl fxr)) :: (zMO m0 npu nte nat_ nde nto nse nhu nga nsd nfa mrf mki mpa mta mla msl mco mhe mso msi msh mce mca mwo mnu mte nba npl nen nnu nwr mwa mke mma mth mtr nra nik) :: (mrf, .inl (cI, 8, .inl grf)) :: (mki, .inl (cI, 8, .inl gki)) :: (mpa, .inl (cI, 8, .inl gpa)) :: (mta, .inl (cI, 8, .inl gta)) :: (mla, .inl (cI, 40, .inl gla)) :: (msl, .inl (cI, 40, .inl gsl)) :: (mco, .inl (cI, 3, .inl gco)) :: (mhe, .inl (cI, 8, .inl ghe)) :: (mso, .inl (cI, 8, .inl gso)) :: (msi, .inl (cI, 8, .inl gsi)) :: (msh, .inl (cI, 8, .inl gsh)) :: (mce, .inl (cJ, 1280, .inr (.inl gce))) :: (mca, .inl (cJ, 160, .inr (.inl gca))) :: (mwo, .inl (cI, 64, .inl gwo)) :: (mnu, .inl (cI, 10, .inl gnu)) :: (mte, .inl (cI, 3, .inl gte)) :: (mwa, .inl (cI, 130, .inl gwa)) :: (mke, .inl (cI, 130, .inl gke)) :: (mma, .inl (cI, 3, .inl gma)) :: (mth, .inl (cI, 3, .inl gth)) :: (mtr, .inl (cI, 20, .inl gtr)) :: []) ++ (zShW cJ sh el he si fe ++ po.1.map zPo)) H) (hD : va_D (fun q : Nat => s.heap.size ≤ q) (((x0, .inr (7, [.ref xs, .ref j0, .ref k0, .ref w0, .ref rd, .ref mv, .ref xr, .int im, .int lf])) :: (xs, .inl (cS, 8, .inr (.inr (.inr (.inr (zS sh)))))) :: (j0, .inr (0, [.ref z0, .ref jp, .ref jc, .int cn, .int de, .int tr, .int se, .int hu, .int sd])) :: (z0, .inr (6, [.ref zl, .ref zs, .int sz, .int at_, .int gp])) :: (zl, .inl (cZ, 40, .inl fzl)) :: (zs, .inl (cI, 40, .inl fzs)) :: (jp, .inl (cP, 8, .inr (.inr (.inr (.inr fp))))) :: (jc, .inl (cI, 3, .inl fjc)) :: (k0, .inr (0, [.ref kz, .ref kp, .ref kc, .int kcn, .int kde, .int ktr, .int kse, .int khu, .int ksd])) :: (kz, .inr (6, [.ref kzl, .ref kzs, .int ksz, .int kat, .int kgp])) :: (kzl, .inl (cZ, 40, .inl fkzl)) :: (kzs, .inl (cI, 40, .inl fkzs)) :: (kp, .inl (cP, 8, .inr (.inr (.inr (.inr fkp))))) :: (kc, .inl (cI, 3, .inl fkc)) :: (w0, .inr (5, [.ref wk, .ref wl, .ref wc, .ref wp, .int wn, .int wh, .int wg])) :: (wk, .inl (cI, 125, .inl fwk)) :: (wl, .inl (cI, 125, .inl fwl)) :: (wc, .inl (cI, 3, .inl fwc)) :: (wp, .inl (cP, 8, .inr (.inr (.inr (.inr fq))))) :: (rd, .inr (3, [.ref ri, .ref rl, .int rz, .int rc, .int rp, .int rf, .int rt, .int ru])) :: (ri, .inl (cI, 132, .inl fri)) :: (rl, .inl (cI, 160, .inl frl)) :: (mv, .inr (1, [.ref mb, .int mr, .int mk, .int mm, .int mq])) :: (mb, .inl (cI, 20, .inl fmb)) :: (xr, .inl (cI, 8, .inl fxr)) :: (zMO m0 npu nte nat_ nde nto nse nhu nga nsd nfa mrf mki mpa mta mla msl mco mhe mso msi msh mce mca mwo mnu mte nba npl nen nnu nwr mwa mke mma mth mtr nra nik) :: (mrf, .inl (cI, 8, .inl grf)) :: (mki, .inl (cI, 8, .inl gki)) :: (mpa, .inl (cI, 8, .inl gpa)) :: (mta, .inl (cI, 8, .inl gta)) :: (mla, .inl (cI, 40, .inl gla)) :: (msl, .inl (cI, 40, .inl gsl)) :: (mco, .inl (cI, 3, .inl gco)) :: (mhe, .inl (cI, 8, .inl ghe)) :: (mso, .inl (cI, 8, .inl gso)) :: (msi, .inl (cI, 8, .inl gsi)) :: (msh, .inl (cI, 8, .inl gsh)) :: (mce, .inl (cJ, 1280, .inr (.inl gce))) :: (mca, .inl (cJ, 160, .inr (.inl gca))) :: (mwo, .inl (cI, 64, .inl gwo)) :: (mnu, .inl (cI, 10, .inl gnu)) :: (mte, .inl (cI, 3, .inl gte)) :: (mwa, .inl (cI, 130, .inl gwa)) :: (mke, .inl (cI, 130, .inl gke)) :: (mma, .inl (cI, 3, .inl gma)) :: (mth, .inl (cI, 3, .inl gth)) :: (mtr, .inl (cI, 20, .inl gtr)) :: []) ++ (zShW cJ sh el he si fe ++ po.1.map zPo))) (hS : va_S (fun q : Nat => s.heap.size ≤ q) s.heap H locs) (ls : Array Slot) (hl : lv_has ls 4 [(3, .int i), (2, .ref m0), (1, .ref x0), (0, .ref b)]) (hnx : zNx p l e s m below meth c D cI cJ cZ cP cS b x0 xs j0 k0 w0 rd mv xr z0 jp jc zl zs kz kp kc kzl kzs wk wl wc wp ri rl mb m0 mrf mki mpa mta mla msl mco mhe mso msi msh mce mca mwo mnu mte mwa mke mma mth mtr sh el n i), W p l e room_1 s m #[Value.ref b] below meth c H locs nkc nks (lw_Z below #[Value.ref b] s) (F0 m pc ls [])

