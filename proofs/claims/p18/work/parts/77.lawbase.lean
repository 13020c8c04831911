/-! worlds in another order; the eight shelves, one of them taken out and put back; the pool among the law's cells -/
theorem zP_perm {D : va_G} {cl : List vw_C} {ws ws' : va_W} {H : Heap} (h : va_P D cl ws H) (p : ws.Perm ws') : va_P D cl ws' H := fun k q hk => by
  have h1 : q ∈ ws := p.symm.subset (List.mem_of_getElem? hk)
  obtain ⟨i, hi⟩ := List.getElem?_of_mem h1
  exact h i q hi
theorem zD_iff {A : Nat → Prop} {ws : va_W} : va_D A ws ↔ (ws.map Prod.fst).Nodup ∧ ∀ q ∈ ws, A q.1 := by
  constructor
  · intro h
    refine ⟨?_, fun q hq => ?_⟩
    · unfold List.Nodup
      rw [List.pairwise_iff_getElem]
      intro i j hi hj hij e
      have li : i < ws.length := by simpa using hi
      have lj : j < ws.length := by simpa using hj
      simp only [List.getElem_map] at e
      have z := h.1 i j ws[i] ws[j] (List.getElem?_eq_getElem li) (List.getElem?_eq_getElem lj) e
      omega
    · obtain ⟨i, hi⟩ := List.getElem?_of_mem hq
      exact h.2 i q hi
  · intro ⟨h1, h2⟩
    have h1' := List.pairwise_iff_getElem.mp h1
    refine ⟨fun i j p q hi hj e => ?_, fun k q hk => h2 q (List.mem_of_getElem? hk)⟩
    obtain ⟨li, ei⟩ := List.getElem?_eq_some_iff.mp hi
    obtain ⟨lj, ej⟩ := List.getElem?_eq_some_iff.mp hj
    rcases Nat.lt_trichotomy i j with h | h | h
    · have z := h1' i j (by simpa using li) (by simpa using lj) h
      simp only [List.getElem_map, ei, ej] at z
      exact absurd e z
    · exact h
    · have z := h1' j i (by simpa using lj) (by simpa using li) h
      simp only [List.getElem_map, ei, ej] at z
      exact absurd e.symm z
theorem zD_perm {A : Nat → Prop} {ws ws' : va_W} (h : va_D A ws) (p : ws.Perm ws') : va_D A ws' := by
  rw [zD_iff] at h ⊢
  exact ⟨(p.map Prod.fst).nodup h.1, fun q hq => h.2 q (p.symm.subset hq)⟩
def zShO (sh el : Nat → Nat) (he si : Nat → Int32) (j : Nat) : Nat × va_E := (sh j, .inr (4, [.ref (el j), .int (he j), .int (si j)]))
def zShE (cJ : ClassId) (el : Nat → Nat) (fe : Nat → Nat → Int64) (j : Nat) : Nat × va_E := (el j, .inl (cJ, 160, .inr (.inl (fe j))))
def zSh8 : List Nat := [0, 1, 2, 3, 4, 5, 6, 7]
def zShW (cJ : ClassId) (sh el : Nat → Nat) (he si : Nat → Int32) (fe : Nat → Nat → Int64) : va_W := zSh8.map (zShO sh el he si) ++ zSh8.map (zShE cJ el fe)
def zShR (cJ : ClassId) (sh el : Nat → Nat) (he si : Nat → Int32) (fe : Nat → Nat → Int64) (j : Nat) : va_W := (zSh8.filter (· != j)).map (zShO sh el he si) ++ (zSh8.filter (· != j)).map (zShE cJ el fe)
theorem zSh_perm {cJ : ClassId} {sh el : Nat → Nat} {he si : Nat → Int32} {fe : Nat → Nat → Int64} {j : Nat} (hj : j < 8) : (zShW cJ sh el he si fe).Perm (zShO sh el he si j :: zShE cJ el fe j :: zShR cJ sh el he si fe j) := by
  have p0 : zSh8.Perm (j :: zSh8.filter (· != j)) := by
    rcases zj8 hj with rfl | rfl | rfl | rfl | rfl | rfl | rfl | rfl <;> decide
  unfold zShW zShR
  refine ((p0.map _).append (p0.map _)).trans ?_
  simp only [List.map_cons, List.cons_append]
  exact List.Perm.cons _ List.perm_middle
theorem zShR_up {cJ : ClassId} {sh el : Nat → Nat} {he si : Nat → Int32} {fe : Nat → Nat → Int64} {j : Nat} {v w : Int32} {g : Nat → Int64} : zShR cJ sh el (va_up he j v) (va_up si j w) (va_up fe j g) j = zShR cJ sh el he si fe j := by
  have hne : ∀ i ∈ zSh8.filter (· != j), i ≠ j := fun i hi => by simpa using (List.mem_filter.mp hi).2
  unfold zShR
  congr 1
  · apply List.map_congr_left
    intro i hi
    simp only [zShO, va_up]
    rw [if_neg (hne i hi), if_neg (hne i hi)]
  · apply List.map_congr_left
    intro i hi
    simp only [zShE, va_up]
    rw [if_neg (hne i hi)]
theorem zSh_pout {cJ : ClassId} {sh el : Nat → Nat} {he si : Nat → Int32} {fe : Nat → Nat → Int64} {j : Nat} (hj : j < 8) (X T : va_W) : (X ++ (zShW cJ sh el he si fe ++ T)).Perm ((X ++ [(sh j, .inr (4, [.ref (el j), .int (he j), .int (si j)])), (el j, .inl (cJ, 160, .inr (.inl (fe j))))]) ++ (zShR cJ sh el he si fe j ++ T)) := by
  rw [List.append_assoc]
  refine List.Perm.append_left X ?_
  exact (zSh_perm hj).append_right T
theorem zSh_pin {cJ : ClassId} {sh el : Nat → Nat} {he si : Nat → Int32} {fe : Nat → Nat → Int64} {j : Nat} (hj : j < 8) (X T : va_W) (v w : Int32) (g : Nat → Int64) : ((X ++ ([(sh j, .inr (4, [.ref (el j), .int v, .int w])), (el j, .inl (cJ, 160, .inr (.inl g)))] : va_W)) ++ (zShR cJ sh el he si fe j ++ T)).Perm (X ++ (zShW cJ sh el (va_up he j v) (va_up si j w) (va_up fe j g) ++ T)) := by
  have h := (zSh_pout (cJ := cJ) (sh := sh) (el := el) (he := va_up he j v) (si := va_up si j w) (fe := va_up fe j g) hj X T).symm
  rw [zShR_up] at h
  simp only [va_up, if_pos] at h ⊢
  exact h
/-- new pulls go to the pool, behind the shelves -/
theorem zNP_perm (X Y S : va_W) (np tl : List (Nat × Int32 × Int32 × Int32)) : ((X ++ (Y ++ np.map zPo)) ++ (S ++ tl.map zPo)).Perm ((X ++ Y) ++ (S ++ (np ++ tl).map zPo)) := by
  rw [List.map_append]
  have h1 : ((X ++ (Y ++ np.map zPo)) ++ (S ++ tl.map zPo)) = (X ++ Y) ++ (np.map zPo ++ (S ++ tl.map zPo)) := by simp
  rw [h1]
  refine List.Perm.append_left _ ?_
  have h2 : S ++ (np.map zPo ++ tl.map zPo) = (S ++ np.map zPo) ++ tl.map zPo := by simp
  rw [h2, ← List.append_assoc]
  exact List.perm_append_comm.append_right _
theorem zJP.mono {po : zPool} {np : List (Nat × Int32 × Int32 × Int32)} {f : Nat → Option Nat} {n : Int32} {K A T : Nat → Int32} (h : zJP po f n K A T) : zJP (np ++ po.1, po.2) f n K A T := fun j hj => by
  obtain ⟨u, h1, h2⟩ := h j hj
  exact ⟨u, h1, List.mem_append_right _ h2⟩
theorem zWP.mono {po : zPool} {np : List (Nat × Int32 × Int32 × Int32)} {f : Nat → Option Nat} (h : zWP po f) : zWP (np ++ po.1, po.2) f := fun j => by
  rcases h j with h1 | ⟨u, k, a, t, h1, h2⟩
  · exact Or.inl h1
  · exact Or.inr ⟨u, k, a, t, h1, List.mem_append_right _ h2⟩
/-- what a callee needs of the pool and the statics, in the law's walk: the pool's cells stand behind the law's -/
theorem zE_law {D : va_G} {po : zPool} {s : State} {H : Heap} {locs : List Loc} {ws S wc : va_W} {isC : List Nat} {A : Nat → Prop} (hz1 : zSt A s s.heap) (hz2 : zStr po A s s.heap) (hP : va_P D vwCl (ws ++ (S ++ po.1.map zPo)) H) (hD : va_D A (ws ++ (S ++ po.1.map zPo))) (hS : va_S A s.heap H locs) (hA : ∀ q, s.heap.size ≤ q → A q) (hC : isC.map (fun i => ws[i]?) = wc.map some) (hpr : ∀ z ∈ po.1, zPr z.2.1 z.2.2.1 z.2.2.2) : zE D po (va_A wc H.size) s H := by
  have hF := zt_free (wc := wc) hD hS hA hC
  refine ⟨(hz1.kept hS).narrow hF, fun z hz => ?_, (hz2.kept hS.2.1).narrow hF⟩
  obtain ⟨k, hk⟩ := List.getElem?_of_mem hz
  have hk2 : (ws ++ (S ++ po.1.map zPo))[ws.length + (S.length + k)]? = some (zPo z) := by
    rw [List.getElem?_append_right (by omega), show ws.length + (S.length + k) - ws.length = S.length + k from by omega, List.getElem?_append_right (by omega), show S.length + k - S.length = k from by omega, List.getElem?_map, hk]
    rfl
  have hPz : va_P D vwCl [zPo z] H := fun i q hi => by
    match i, hi with
    | 0, hi =>
      obtain rfl : zPo z = q := by simpa using hi
      exact hP _ _ hk2
    | i + 1, hi => simp at hi
  refine ⟨hPz, fun ha => ?_, hpr z hz⟩
  rcases ha with ⟨i, e, hi⟩ | ha
  · obtain ⟨i2, h1, h2⟩ := va_in_of isC hC hi
    have hl : i2 < ws.length := (List.getElem?_eq_some_iff.mp h2).1
    have h3 : (ws ++ (S ++ po.1.map zPo))[i2]? = some (z.1, e) := by rw [List.getElem?_append_left hl]; exact h2
    have h4 := hD.1 _ _ _ _ h3 hk2 rfl
    omega
  · have h5 := (hP _ _ hk2).lt
    exact absurd h5 (Nat.not_lt.mpr ha)
def zShR2 (cJ : ClassId) (sh el : Nat → Nat) (he si : Nat → Int32) (fe : Nat → Nat → Int64) (j k : Nat) : va_W := ((zSh8.filter (· != j)).filter (· != k)).map (zShO sh el he si) ++ ((zSh8.filter (· != j)).filter (· != k)).map (zShE cJ el fe)
theorem zSh_perm2 {cJ : ClassId} {sh el : Nat → Nat} {he si : Nat → Int32} {fe : Nat → Nat → Int64} {j k : Nat} (hj : j < 8) (hk : k < 8) (hjk : k ≠ j) : (zShR cJ sh el he si fe j).Perm (zShO sh el he si k :: zShE cJ el fe k :: zShR2 cJ sh el he si fe j k) := by
  have p0 : (zSh8.filter (· != j)).Perm (k :: (zSh8.filter (· != j)).filter (· != k)) := by
    rcases zj8 hj with rfl | rfl | rfl | rfl | rfl | rfl | rfl | rfl <;> rcases zj8 hk with rfl | rfl | rfl | rfl | rfl | rfl | rfl | rfl <;> first | decide | exact absurd rfl hjk
  unfold zShR zShR2
  refine ((p0.map _).append (p0.map _)).trans ?_
  simp only [List.map_cons, List.cons_append]
  exact List.Perm.cons _ List.perm_middle
theorem zSh_pout2 {cJ : ClassId} {sh el : Nat → Nat} {he si : Nat → Int32} {fe : Nat → Nat → Int64} {j k : Nat} (hj : j < 8) (hk : k < 8) (hjk : k ≠ j) (X T : va_W) : (X ++ (zShW cJ sh el he si fe ++ T)).Perm ((X ++ [(sh j, .inr (4, [.ref (el j), .int (he j), .int (si j)])), (el j, .inl (cJ, 160, .inr (.inl (fe j)))), (sh k, .inr (4, [.ref (el k), .int (he k), .int (si k)])), (el k, .inl (cJ, 160, .inr (.inl (fe k))))]) ++ (zShR2 cJ sh el he si fe j k ++ T)) := by
  rw [List.append_assoc]
  refine List.Perm.append_left X ?_
  refine ((zSh_perm hj).append_right T).trans ?_
  simp only [List.cons_append, List.nil_append]
  refine List.Perm.cons _ (List.Perm.cons _ ?_)
  exact (zSh_perm2 hj hk hjk).append_right T
theorem zShR2_up {cJ : ClassId} {sh el : Nat → Nat} {he si : Nat → Int32} {fe : Nat → Nat → Int64} {j k : Nat} {g : Nat → Int64} : zShR2 cJ sh el he si (va_up fe k g) j k = zShR2 cJ sh el he si fe j k := by
  have hne : ∀ i ∈ (zSh8.filter (· != j)).filter (· != k), i ≠ k := fun i hi => by simpa using (List.mem_filter.mp hi).2
  unfold zShR2
  congr 1
  apply List.map_congr_left
  intro i hi
  simp only [zShE, va_up]
  rw [if_neg (hne i hi)]
theorem zSh_pin2 {cJ : ClassId} {sh el : Nat → Nat} {he si : Nat → Int32} {fe : Nat → Nat → Int64} {j k : Nat} (hj : j < 8) (hk : k < 8) (hjk : k ≠ j) (X T : va_W) (g : Nat → Int64) : ((X ++ ([(sh j, .inr (4, [.ref (el j), .int (he j), .int (si j)])), (el j, .inl (cJ, 160, .inr (.inl (fe j)))), (sh k, .inr (4, [.ref (el k), .int (he k), .int (si k)])), (el k, .inl (cJ, 160, .inr (.inl g)))] : va_W)) ++ (zShR2 cJ sh el he si fe j k ++ T)).Perm (X ++ (zShW cJ sh el he si (va_up fe k g) ++ T)) := by
  have h := (zSh_pout2 (cJ := cJ) (sh := sh) (el := el) (he := he) (si := si) (fe := va_up fe k g) hj hk hjk X T).symm
  rw [zShR2_up] at h
  have e1 : va_up fe k g j = fe j := by simp only [va_up]; rw [if_neg (fun e => hjk e.symm)]
  have e2 : va_up fe k g k = g := by simp [va_up]
  rw [e1, e2] at h
  exact h
def zH8 {α : Type} (a0 a1 a2 a3 a4 a5 a6 a7 : α) : Nat → α := fun j => if j = 0 then a0 else if j = 1 then a1 else if j = 2 then a2 else if j = 3 then a3 else if j = 4 then a4 else if j = 5 then a5 else if j = 6 then a6 else a7
theorem zRg8 {a0 a1 a2 a3 a4 a5 a6 a7 : Int32} {lo hi : Int} (h0 : lo ≤ a0.toInt ∧ a0.toInt ≤ hi) (h1 : lo ≤ a1.toInt ∧ a1.toInt ≤ hi) (h2 : lo ≤ a2.toInt ∧ a2.toInt ≤ hi) (h3 : lo ≤ a3.toInt ∧ a3.toInt ≤ hi) (h4 : lo ≤ a4.toInt ∧ a4.toInt ≤ hi) (h5 : lo ≤ a5.toInt ∧ a5.toInt ≤ hi) (h6 : lo ≤ a6.toInt ∧ a6.toInt ≤ hi) (h7 : lo ≤ a7.toInt ∧ a7.toInt ≤ hi) : zRg (zH8 a0 a1 a2 a3 a4 a5 a6 a7) lo hi := by
  intro j
  unfold zH8
  repeat' split
  all_goals assumption
theorem zRg_va {f : Nat → Int32} {lo hi : Int} {k : Nat} {v : Int32} (h : zRg f lo hi) (h1 : lo ≤ v.toInt ∧ v.toInt ≤ hi) : zRg (va_up f k v) lo hi := by
  intro j; simp only [va_up]; split
  · exact h1
  · exact h j

