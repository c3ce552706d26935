/-! each LINE keeps what is so -/
theorem bgO_s {bt : F1} {n num a : Int} {C : Prop} (h : ¬ isE (bgO bt n C num a)) : C ∧ bgO bt n C num a = .inr (nxE bt n a) := by
  by_cases z : C
  · exact ⟨z, pick_t z⟩
  · have e : bgO bt n C num a = .inl (num, a) := pick_f z
    rw [e] at h; exact absurd trivial h
theorem plR_w {bt r : F1} {n : Int} {o : PO} (h : WFp r) : WFp (plR bt n r o) := by
  have b1 := nuV_b bt n (lo := 0) (hi := 99) (by decide) (plA bt n o)
  have b2 := nuV_b bt n (lo := 0) (hi := 99) (by decide) (plB bt n o)
  have b3 := nuV_b bt n (lo := 1) (hi := 3) (by decide) (plC bt n o)
  have e : ∀ j, 4 ≤ j → plR bt n r o j = r j := fun j hj => by
    unfold plR
    rw [sr_n (by omega), sr_n (by omega), sr_n (by omega), sr_n (by omega)]
  have e0 : plR bt n r o 0 = 1 := sr_e
  have e1 : plR bt n r o 1 = nuV bt n 0 99 (plA bt n o) := by unfold plR; rw [sr_n (by omega), sr_n (by omega), sr_n (by omega), sr_e]
  have e2 : plR bt n r o 2 = nuV bt n 0 99 (plB bt n o) := by unfold plR; rw [sr_n (by omega), sr_n (by omega), sr_e]
  have e3 : plR bt n r o 3 = nuV bt n 1 3 (plC bt n o) := by unfold plR; rw [sr_n (by omega), sr_e]
  generalize plR bt n r o = r' at e e0 e1 e2 e3
  obtain ⟨a, b, c, d, f, g, i, j, k, l, m, q⟩ := h
  have a' := a
  unfold wHd at a'
  have hd : wHd r' := by
    unfold wHd
    rw [e 4 (by omega), e 5 (by omega), e 6 (by omega), e 7 (by omega), e 8 (by omega), e0, e1, e2, e3]
    omega
  refine ⟨hd, wPa_c b (fun j j1 j2 => e j (by omega)), wSc_c c (fun j j1 j2 => e j (by omega)), wOn_c a d (fun j j1 j2 => e j (by omega)) (by rw [e 4 (by omega)]; omega) (by rw [e 5 (by omega)]; omega) (e 7 (by omega)) (fun s s1 s2 => e _ (by omega)),
    wSa_c a f (fun j j1 j2 => e j (by omega)) (by rw [e 4 (by omega)]; omega) (e 8 (by omega)), wBe_c g i a (fun s s1 s2 => e _ (by omega)) (by rw [e 5 (by omega)]; omega) (by rw [e 5 (by omega)]; omega), ⟨fun s s1 s2 => ?_, fun s s1 s2 => ?_⟩, wNm_c j (fun j j1 j2 => e j (by omega)) (e 4 (by omega)) (e 5 (by omega)), wUq_c j k (fun j j1 j2 => e j (by omega)), wLt_c j l (fun j j1 j2 => e j (by omega)), wZ_c a m (fun j j1 j2 => e j (by omega)) (e 4 (by omega)), Acy_c q (fun s s1 s2 => e _ (by omega))⟩
  · rw [e 5 (by omega)] at s2
    rw [e _ (by omega)]; exact i.1 s s1 s2
  · rw [e 5 (by omega)] at s1
    rw [e _ (by omega)]; exact i.2 s s1 s2
theorem kiK_b (bt : F1) (n : Int) (o : PO) : 0 ≤ kiK bt n o ∧ kiK bt n o ≤ 3 := by
  unfold kiK
  by_cases h1 : isW bt n (wS 38) o
  · rw [pick_t h1]; omega
  · rw [pick_f h1]
    by_cases h2 : isW bt n (wS 39) o
    · rw [pick_t h2]; omega
    · rw [pick_f h2]
      by_cases h3 : isW bt n (wS 40) o
      · rw [pick_t h3]; omega
      · rw [pick_f h3]; omega
theorem kiH_b (bt : F1) (n : Int) (o : PO) : 0 ≤ kiH bt n o ∧ kiH bt n o ≤ 99 := by
  cases o with
  | inl q => exact ⟨Int.le_refl _, show (0 : Int) ≤ 99 by decide⟩
  | inr a =>
    by_cases h1 : isW bt n (wS 38) (.inr a)
    · have e : kiH bt n (.inr a) = nuV bt n 0 99 (.inr (nxE bt n a)) := pick_t h1
      rw [e]; exact nuV_b bt n (by decide) _
    · have e : kiH bt n (.inr a) = 0 := pick_f h1
      rw [e]; omega
theorem ptO_A {bt r : F1} {n : Int} {o : PO} (h : ¬ isE (ptO bt n r o)) : ¬ isE (nnO bt n r o) := fun z => h (by
  unfold ptO ptD ptC ptB ptA
  exact isE_nu (isE_mu (isE_nu (isE_mu (isE_nu (isE_mu (isE_ki z)))))))
theorem ptR_w {bt r : F1} {n : Int} {o : PO} (h : WFp r) (h6 : r 4 ≤ 6) (hO : ¬ isE (ptO bt n r o)) : WFp (ptR bt n r o) := by
  obtain ⟨a0, -, hm, hf, -, hR⟩ := nnO_s (ptO_A hO)
  have hR := hR (r 4)
  have hw := wdE_w hm.1
  have b1 := nuV_b bt n (lo := 0) (hi := 9) (by decide) (ptB bt n r o)
  have b2 := nuV_b bt n (lo := 0) (hi := 99) (by decide) (ptC bt n r o)
  have b3 := nuV_b bt n (lo := 0) (hi := 99) (by decide) (ptD bt n r o)
  have b4 := kiK_b bt n (ptA bt n r o)
  have b5 := kiH_b bt n (ptA bt n r o)
  obtain ⟨a, b, c, d, f, g, i, j, k, l, m, q⟩ := h
  have a' := a
  unfold wHd at a'
  have e1 : ∀ j, j ≠ 4 → j ≠ 9 + r 4 → j ≠ 16 + r 4 → j ≠ 23 + r 4 → j ≠ 30 + r 4 → j ≠ 37 + r 4 → ptR bt n r o j = setN r (r 4) (wdE bt n a0) j := fun j j1 j2 j3 j4 j5 j6 => by
    unfold ptR
    rw [sr_n j1, sr_n j5, sr_n j4, sr_n j3, sr_n j6, sr_n j2, hR]
  have e : ∀ j, j < 173 → j ≠ 4 → j ≠ 9 + r 4 → j ≠ 16 + r 4 → j ≠ 23 + r 4 → j ≠ 30 + r 4 → j ≠ 37 + r 4 → ptR bt n r o j = r j := fun j j0 j1 j2 j3 j4 j5 j6 => by
    rw [e1 j j1 j2 j3 j4 j5 j6, setN_n (by omega) (by omega)]
  have v4 : ptR bt n r o 4 = r 4 + 1 := sr_e
  have v9 : ptR bt n r o (9 + r 4) = kiK bt n (ptA bt n r o) := by unfold ptR; rw [sr_n (by omega), sr_n (by omega), sr_n (by omega), sr_n (by omega), sr_n (by omega), sr_e]
  have v37 : ptR bt n r o (37 + r 4) = kiH bt n (ptA bt n r o) := by unfold ptR; rw [sr_n (by omega), sr_n (by omega), sr_n (by omega), sr_n (by omega), sr_e]
  have v16 : ptR bt n r o (16 + r 4) = nuV bt n 0 9 (ptB bt n r o) := by unfold ptR; rw [sr_n (by omega), sr_n (by omega), sr_n (by omega), sr_e]
  have v23 : ptR bt n r o (23 + r 4) = nuV bt n 0 99 (ptC bt n r o) := by unfold ptR; rw [sr_n (by omega), sr_n (by omega), sr_e]
  have v30 : ptR bt n r o (30 + r 4) = nuV bt n 0 99 (ptD bt n r o) := by unfold ptR; rw [sr_n (by omega), sr_e]
  generalize ptR bt n r o = r' at e e1 v4 v9 v37 v16 v23 v30
  have w5 : r' 5 = r 5 := e 5 (by omega) (by omega) (by omega) (by omega) (by omega) (by omega) (by omega)
  have hd : wHd r' := by
    unfold wHd
    rw [v4, e 5 (by omega) (by omega) (by omega) (by omega) (by omega) (by omega) (by omega), e 6 (by omega) (by omega) (by omega) (by omega) (by omega) (by omega) (by omega), e 7 (by omega) (by omega) (by omega) (by omega) (by omega) (by omega) (by omega), e 8 (by omega) (by omega) (by omega) (by omega) (by omega) (by omega) (by omega), e 0 (by omega) (by omega) (by omega) (by omega) (by omega) (by omega) (by omega), e 1 (by omega) (by omega) (by omega) (by omega) (by omega) (by omega) (by omega), e 2 (by omega) (by omega) (by omega) (by omega) (by omega) (by omega) (by omega), e 3 (by omega) (by omega) (by omega) (by omega) (by omega) (by omega) (by omega)]
    omega
  have nm := names_new (r' := r') (p := r 4) (w := wdE bt n a0) (by omega) j k l ⟨hw.1, hw.2.1⟩ hw.2.2 hf (fun j j1 j2 => e1 j (by omega) (by omega) (by omega) (by omega) (by omega) (by omega)) (fun j j1 j2 => by unfold nIx; rw [v4, w5]; omega)
  refine ⟨hd, fun p p1 p2 => ?_, wSc_c c (fun j j1 j2 => e j (by omega) (by omega) (by omega) (by omega) (by omega) (by omega) (by omega)), wOn_c a d (fun j j1 j2 => e j (by omega) (by omega) (by omega) (by omega) (by omega) (by omega) (by omega)) (by omega) (by omega) (e 7 (by omega) (by omega) (by omega) (by omega) (by omega) (by omega) (by omega)) (fun s s1 s2 => e _ (by omega) (by omega) (by omega) (by omega) (by omega) (by omega) (by omega)),
    wSa_c a f (fun j j1 j2 => e j (by omega) (by omega) (by omega) (by omega) (by omega) (by omega) (by omega)) (by omega) (e 8 (by omega) (by omega) (by omega) (by omega) (by omega) (by omega) (by omega)), wBe_c g i a (fun s s1 s2 => e _ (by omega) (by omega) (by omega) (by omega) (by omega) (by omega) (by omega)) (by omega) (by omega), ⟨fun s s1 s2 => ?_, fun s s1 s2 => ?_⟩, nm.1, nm.2.1, nm.2.2, fun p p1 p2 => ?_, Acy_c q (fun s s1 s2 => e _ (by omega) (by omega) (by omega) (by omega) (by omega) (by omega) (by omega))⟩
  · by_cases z : p = r 4
    · rw [z, v9, v16, v23, v30, v37]; omega
    · rw [e (9 + p) (by omega) (by omega) (by omega) (by omega) (by omega) (by omega) (by omega), e (16 + p) (by omega) (by omega) (by omega) (by omega) (by omega) (by omega) (by omega), e (23 + p) (by omega) (by omega) (by omega) (by omega) (by omega) (by omega) (by omega), e (30 + p) (by omega) (by omega) (by omega) (by omega) (by omega) (by omega) (by omega), e (37 + p) (by omega) (by omega) (by omega) (by omega) (by omega) (by omega) (by omega)]
      exact b p p1 p2
  · rw [w5] at s2
    rw [e (44 + s) (by omega) (by omega) (by omega) (by omega) (by omega) (by omega) (by omega)]; exact i.1 s s1 s2
  · rw [w5] at s1
    rw [e (49 + s) (by omega) (by omega) (by omega) (by omega) (by omega) (by omega) (by omega)]; exact i.2 s s1 s2
  · rw [v4] at p1
    rw [e (9 + p) (by omega) (by omega) (by omega) (by omega) (by omega) (by omega) (by omega), e (37 + p) (by omega) (by omega) (by omega) (by omega) (by omega) (by omega) (by omega)]
    exact m p (by omega) p2
theorem scO_A {bt r : F1} {n : Int} {o : PO} (h : ¬ isE (scO bt n r o)) : ¬ isE (nnO bt n r o) := fun z => h (by
  unfold scO scA
  exact isE_nu (isE_mu z))
theorem scR_w {bt r : F1} {n : Int} {o : PO} (h : WFp r) (h6 : r 5 ≤ 4) (hO : ¬ isE (scO bt n r o)) : WFp (scR bt n r o) := by
  obtain ⟨a0, -, hm, hf, -, hR⟩ := nnO_s (scO_A hO)
  have hR := hR (7 + r 5)
  have hw := wdE_w hm.1
  have b1 := nuV_b bt n (lo := 1) (hi := 500) (by decide) (scA bt n r o)
  obtain ⟨a, b, c, d, f, g, i, j, k, l, m, q⟩ := h
  have a' := a
  unfold wHd at a'
  have e1 : ∀ j, j ≠ 5 → j ≠ 44 + r 5 → scR bt n r o j = setN r (7 + r 5) (wdE bt n a0) j := fun j j1 j2 => by
    unfold scR
    rw [sr_n j1, sr_n j2, hR]
  have e : ∀ j, j < 173 → j ≠ 5 → j ≠ 44 + r 5 → scR bt n r o j = r j := fun j j0 j1 j2 => by
    rw [e1 j j1 j2, setN_n (by omega) (by omega)]
  have v5 : scR bt n r o 5 = r 5 + 1 := sr_e
  have v44 : scR bt n r o (44 + r 5) = nuV bt n 1 500 (scA bt n r o) := by unfold scR; rw [sr_n (by omega), sr_e]
  generalize scR bt n r o = r' at e e1 v5 v44
  have w4 : r' 4 = r 4 := e 4 (by omega) (by omega) (by omega)
  have hd : wHd r' := by
    unfold wHd
    rw [v5, w4, e 6 (by omega) (by omega) (by omega), e 7 (by omega) (by omega) (by omega), e 8 (by omega) (by omega) (by omega), e 0 (by omega) (by omega) (by omega), e 1 (by omega) (by omega) (by omega), e 2 (by omega) (by omega) (by omega), e 3 (by omega) (by omega) (by omega)]
    omega
  have nm := names_new (r' := r') (p := 7 + r 5) (w := wdE bt n a0) (by omega) j k l ⟨hw.1, hw.2.1⟩ hw.2.2 hf (fun j j1 j2 => e1 j (by omega) (by omega)) (fun j j1 j2 => by unfold nIx; rw [v5, w4]; omega)
  refine ⟨hd, wPa_c b (fun j j1 j2 => e j (by omega) (by omega) (by omega)), fun s s1 s2 => ?_, wOn_c a d (fun j j1 j2 => e j (by omega) (by omega) (by omega)) (by omega) (by omega) (e 7 (by omega) (by omega) (by omega)) (fun s s1 s2 => e _ (by omega) (by omega) (by omega)),
    wSa_c a f (fun j j1 j2 => e j (by omega) (by omega) (by omega)) (by omega) (e 8 (by omega) (by omega) (by omega)), wBe_c g i a (fun s s1 s2 => e _ (by omega) (by omega) (by omega)) (by omega) (by omega), ⟨fun s s1 s2 => ?_, fun s s1 s2 => ?_⟩, nm.1, nm.2.1, nm.2.2, wZ_c a m (fun j j1 j2 => e j (by omega) (by omega) (by omega)) w4, Acy_c q (fun s s1 s2 => e _ (by omega) (by omega) (by omega))⟩
  · have g := c s s1 s2
    rw [e (49 + s) (by omega) (by omega) (by omega)]
    by_cases z : s = r 5
    · rw [z, v44]; rw [z] at g; omega
    · rw [e (44 + s) (by omega) (by omega) (by omega)]; exact g
  · by_cases z : s = r 5
    · rw [z, v44]; omega
    · rw [e (44 + s) (by omega) (by omega) (by omega)]; exact i.1 s s1 (by omega)
  · rw [e (49 + s) (by omega) (by omega) (by omega)]; exact i.2 s (by omega) s2
/-- what an after tells -/
theorem afO_s {bt r : F1} {n : Int} {o : PO} (hn : wNm r) (h : ¬ isE (afO bt n r o)) : (0 ≤ afV bt n r o ∧ afV bt n r o < r 5) ∧ (0 ≤ afW bt n r o ∧ afW bt n r o < r 5) ∧ afV bt n r o ≠ afW bt n r o ∧ ¬ AncP r (afV bt n r o) (afW bt n r o) := by
  have hB : ¬ isE (afB bt n r o) := fun z => h (by
    obtain ⟨q, hq⟩ := isE_t z
    unfold afO; rw [hq]; trivial)
  have hA : ¬ isE (afA bt n r o) := fun z => hB (isE_na z)
  obtain ⟨a1, -, -, -, -, k1⟩ := naV_s (B := False) hn (fun z => hA (isE_pn.mpr z))
  obtain ⟨a2, -, -, e2, -, k2⟩ := naV_s (B := False) hn hB
  have c1 := naV_b bt n r False o
  have c2 := naV_b bt n r False (afA bt n r o)
  have eO : afO bt n r o = pick (afV bt n r o = afW bt n r o) (.inl (3, a2)) (pick (AncP r (afV bt n r o) (afW bt n r o)) (.inl (7, a2)) (.inr (nxE bt n a2))) := by
    unfold afO
    have : afB bt n r o = .inr a2 := e2
    rw [this]
  rw [eO] at h
  refine ⟨⟨c1.1, (k1 id).1⟩, ⟨c2.1, (k2 id).1⟩, fun z => ?_, fun z => ?_⟩
  · rw [pick_t z] at h; exact h trivial
  · by_cases y : afV bt n r o = afW bt n r o
    · rw [pick_t y] at h; exact h trivial
    · rw [pick_f y, pick_t z] at h; exact h trivial
theorem afR_w {bt r : F1} {n : Int} {o : PO} (h : WFp r) (h6 : r 6 ≤ 5) (hO : ¬ isE (afO bt n r o)) : WFp (afR bt n r o) := by
  obtain ⟨a, b, c, d, f, g, i, j, k, l, m, q⟩ := h
  obtain ⟨x1, x2, x3, x4⟩ := afO_s j hO
  have a' := a
  unfold wHd at a'
  have e : ∀ j, j ≠ 6 → j ≠ 49 + afW bt n r o → afR bt n r o j = r j := fun j j1 j2 => by
    unfold afR
    rw [sr_n j1, sr_n j2]
  have v6 : afR bt n r o 6 = r 6 + 1 := sr_e
  have v49 : afR bt n r o (49 + afW bt n r o) = ior (r (49 + afW bt n r o)) (ishl 1 (afV bt n r o)) := by unfold afR; rw [sr_n (by omega), sr_e]
  generalize afR bt n r o = r' at e v6 v49
  generalize afV bt n r o = one at e v6 v49 x1 x2 x3 x4
  generalize afW bt n r o = two at e v6 v49 x1 x2 x3 x4
  have e32 : 0 ≤ ishl 1 one ∧ ishl 1 one < 32 := by
    have hc : one = 0 ∨ one = 1 ∨ one = 2 ∨ one = 3 ∨ one = 4 := by omega
    rcases hc with rfl | rfl | rfl | rfl | rfl <;> decide
  have hd : wHd r' := by
    unfold wHd
    rw [v6, e 4 (by omega) (by omega), e 5 (by omega) (by omega), e 7 (by omega) (by omega), e 8 (by omega) (by omega), e 0 (by omega) (by omega), e 1 (by omega) (by omega), e 2 (by omega) (by omega), e 3 (by omega) (by omega)]
    omega
  have w4 : r' 4 = r 4 := e 4 (by omega) (by omega)
  have w5 : r' 5 = r 5 := e 5 (by omega) (by omega)
  have new : ∀ s, 0 ≤ s → s < 5 → ∀ u, 0 ≤ u → u < 32 → (hasI (r' (49 + s)) u ↔ hasI (r (49 + s)) u ∨ (s = two ∧ u = one)) := by
    intro s s1 s2 u u1 u2
    by_cases z : s = two
    · rw [z, v49, has_or ⟨u1, u2⟩, has_shl (by omega) ⟨u1, u2⟩]
      constructor
      · rintro (y | y)
        · exact Or.inl y
        · exact Or.inr ⟨rfl, y⟩
      · rintro (y | ⟨-, y⟩)
        · exact Or.inl y
        · exact Or.inr y
    · rw [e (49 + s) (by omega) (by omega)]
      exact ⟨fun y => Or.inl y, fun y => y.elim id (fun w => absurd w.1 z)⟩
  refine ⟨hd, wPa_c b (fun j j1 j2 => e j (by omega) (by omega)), fun s s1 s2 => ?_, wOn_c a d (fun j j1 j2 => e j (by omega) (by omega)) (by omega) (by omega) (e 7 (by omega) (by omega)) (fun s s1 s2 => e _ (by omega) (by omega)),
    wSa_c a f (fun j j1 j2 => e j (by omega) (by omega)) (by omega) (e 8 (by omega) (by omega)), fun s s1 s2 u u1 u2 hu => ?_, ⟨fun s s1 s2 => ?_, fun s s1 s2 => ?_⟩, wNm_c j (fun j j1 j2 => e j (by omega) (by omega)) w4 w5, wUq_c j k (fun j j1 j2 => e j (by omega) (by omega)), wLt_c j l (fun j j1 j2 => e j (by omega) (by omega)), wZ_c a m (fun j j1 j2 => e j (by omega) (by omega)) w4, ?_⟩
  · have g := c s s1 s2
    rw [e (44 + s) (by omega) (by omega)]
    by_cases z : s = two
    · rw [z, v49]; rw [z] at g
      have := ior_32 ⟨g.2.2.1, g.2.2.2⟩ e32
      omega
    · rw [e (49 + s) (by omega) (by omega)]; exact g
  · rw [w5] at s2 ⊢
    rcases (new s s1 (by omega) u u1 u2).mp hu with y | ⟨y1, y2⟩
    · exact g s s1 s2 u u1 u2 y
    · omega
  · rw [w5] at s2
    rw [e (44 + s) (by omega) (by omega)]; exact i.1 s s1 s2
  · rw [w5] at s1
    rw [e (49 + s) (by omega) (by omega)]; exact i.2 s s1 s2
  · obtain ⟨ρ, hρ⟩ := q
    refine ⟨fun s => @ite Nat (AncP r one s) (Classical.propDecidable _) (ρ s) (ρ s + (ρ one + 1)), fun s s1 s2 u u1 u2 hu => ?_⟩
    rcases (new s s1 s2 u u1 u2).mp hu with y | ⟨y1, y2⟩
    · have h1 := hρ s s1 s2 u u1 u2 y
      by_cases z : AncP r one s
      · have zu : AncP r one u := z.st ⟨s1, s2⟩ y
        simp only [if_pos z, if_pos zu]; exact h1
      · by_cases zu : AncP r one u
        · simp only [if_neg z, if_pos zu]; omega
        · simp only [if_neg z, if_neg zu]; omega
    · subst y1; subst y2
      simp only [if_pos (AncP.rf : AncP r u u), if_neg x4]; omega
