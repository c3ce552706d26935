/-! on and saw keep what is so; a LINE; all of a text -/
theorem onO_s {bt r : F1} {n : Int} {o : PO} (hn : wNm r) (h : ¬ isE (onO bt n r o)) : (0 ≤ naV bt n r True o ∧ naV bt n r True o < r 4) ∧ (0 ≤ onS bt n r o ∧ onS bt n r o < r 5) ∧ onL bt n r o = r (44 + onS bt n r o) := by
  have hH : ¬ isE (onH bt n r o) := fun z => h (isE_tk z)
  have hB : ¬ isE (onB bt n r o) := fun z => hH (by
    unfold onH onG onE onD
    exact isE_si (isE_si (isE_nu (isE_mu (isE_nu z)))))
  have hA : ¬ isE (onA bt n r o) := fun z => hB (isE_pn.mpr (isE_na z))
  obtain ⟨a1, -, -, -, k1, -⟩ := naV_s (B := True) hn (fun z => hA (isE_pn.mpr z))
  obtain ⟨a2, -, -, -, -, k2⟩ := naV_s (B := False) hn (fun z => hB (isE_pn.mpr z))
  exact ⟨⟨(naV_b bt n r True o).1, (k1 trivial).1⟩, ⟨(naV_b bt n r False _).1, (k2 id).1⟩, pick_f hB⟩
theorem onL_b {bt r : F1} {n : Int} {o : PO} (h : WFp r) : 1 ≤ onL bt n r o ∧ onL bt n r o ≤ 500 := by
  obtain ⟨a, b, c, d, f, g, i, j, k, l, m, q⟩ := h
  by_cases z : isE (onB bt n r o)
  · have e : onL bt n r o = 1 := pick_t z
    rw [e]; omega
  · have e : onL bt n r o = r (44 + onS bt n r o) := pick_f z
    obtain ⟨a2, -, -, -, -, k2⟩ := naV_s (B := False) j (fun y => z (isE_pn.mpr y))
    have s0 : 0 ≤ onS bt n r o := (naV_b bt n r False _).1
    have s1 : onS bt n r o < r 5 := (k2 id).1
    unfold wHd at a
    rw [e]
    have := i.1 _ s0 s1
    have := c _ s0 (by omega)
    omega
theorem onR_w {bt r : F1} {n : Int} {o : PO} (h : WFp r) (h6 : r 7 ≤ 13) (hO : ¬ isE (onO bt n r o)) : WFp (onR bt n r o) := by
  have hL := onL_b (bt := bt) (n := n) (o := o) h
  obtain ⟨a, b, c, d, f, g, i, j, k, l, m, q⟩ := h
  obtain ⟨x1, x2, x3⟩ := onO_s j hO
  have b3 : 0 ≤ onF9 bt n r o ∧ onF9 bt n r o ≤ onL bt n r o - 1 := nuV_b bt n (by omega) (onB bt n r o)
  have b4 : onF9 bt n r o + 1 ≤ onT bt n r o ∧ onT bt n r o ≤ onL bt n r o := nuV_b bt n (by omega) (onD bt n r o)
  have b5 := siV_b bt n (onE bt n r o)
  have b6 := siV_b bt n (onG bt n r o)
  have b7 : 0 ≤ onQ bt n r o ∧ onQ bt n r o ≤ 1 := bI_b _
  have a' := a
  unfold wHd at a'
  have e : ∀ j, j ≠ 7 → (j < 54 + 7 * r 7 ∨ 54 + 7 * r 7 + 7 ≤ j) → onR bt n r o j = r j := fun j j1 j2 => by
    unfold onR
    rw [sr_n j1, sr_n (by omega), sr_n (by omega), sr_n (by omega), sr_n (by omega), sr_n (by omega), sr_n (by omega), sr_n (by omega)]
  have v7 : onR bt n r o 7 = r 7 + 1 := sr_e
  have u0 : onR bt n r o (54 + 7 * r 7 + 0) = naV bt n r True o := by unfold onR; rw [sr_n (by omega), sr_n (by omega), sr_n (by omega), sr_n (by omega), sr_n (by omega), sr_n (by omega), sr_n (by omega), sr_e]
  have u1 : onR bt n r o (54 + 7 * r 7 + 1) = onS bt n r o := by unfold onR; rw [sr_n (by omega), sr_n (by omega), sr_n (by omega), sr_n (by omega), sr_n (by omega), sr_n (by omega), sr_e]
  have u2 : onR bt n r o (54 + 7 * r 7 + 2) = onF9 bt n r o := by unfold onR; rw [sr_n (by omega), sr_n (by omega), sr_n (by omega), sr_n (by omega), sr_n (by omega), sr_e]
  have u3 : onR bt n r o (54 + 7 * r 7 + 3) = onT bt n r o := by unfold onR; rw [sr_n (by omega), sr_n (by omega), sr_n (by omega), sr_n (by omega), sr_e]
  have u4 : onR bt n r o (54 + 7 * r 7 + 4) = siV bt n (onE bt n r o) := by unfold onR; rw [sr_n (by omega), sr_n (by omega), sr_n (by omega), sr_e]
  have u5 : onR bt n r o (54 + 7 * r 7 + 5) = siV bt n (onG bt n r o) := by unfold onR; rw [sr_n (by omega), sr_n (by omega), sr_e]
  have u6 : onR bt n r o (54 + 7 * r 7 + 6) = onQ bt n r o := by unfold onR; rw [sr_n (by omega), sr_e]
  generalize onR bt n r o = r' at e v7 u0 u1 u2 u3 u4 u5 u6
  have w4 : r' 4 = r 4 := e 4 (by omega) (by omega)
  have w5 : r' 5 = r 5 := e 5 (by omega) (by omega)
  have hd : wHd r' := by
    unfold wHd
    rw [v7, w4, w5, e 6 (by omega) (by omega), e 8 (by omega) (by omega), e 0 (by omega) (by omega), e 1 (by omega) (by omega), e 2 (by omega) (by omega), e 3 (by omega) (by omega)]
    omega
  refine ⟨hd, wPa_c b (fun j j1 j2 => e j (by omega) (by omega)), wSc_c c (fun j j1 j2 => e j (by omega) (by omega)), fun t t1 t2 => ?_,
    wSa_c a f (fun j j1 j2 => e j (by omega) (by omega)) (by omega) (e 8 (by omega) (by omega)), wBe_c g i a (fun s s1 s2 => e _ (by omega) (by omega)) (by omega) (by omega), ⟨fun s s1 s2 => ?_, fun s s1 s2 => ?_⟩, wNm_c j (fun j j1 j2 => e j (by omega) (by omega)) w4 w5, wUq_c j k (fun j j1 j2 => e j (by omega) (by omega)), wLt_c j l (fun j j1 j2 => e j (by omega) (by omega)), wZ_c a m (fun j j1 j2 => e j (by omega) (by omega)) w4, Acy_c q (fun s s1 s2 => e _ (by omega) (by omega))⟩
  · rw [w4, w5]
    by_cases z : t = r 7
    · subst z
      have el : r' (44 + onS bt n r o) = r (44 + onS bt n r o) := e _ (by omega) (by omega)
      rw [u0, u1, u2, u3, u4, u5, u6, el, ← x3]
      omega
    · have gd := d t t1 (by omega)
      have el : r' (44 + r (54 + 7 * t + 1)) = r (44 + r (54 + 7 * t + 1)) := e _ (by omega) (by omega)
      rw [e (54 + 7 * t + 0) (by omega) (by omega), e (54 + 7 * t + 1) (by omega) (by omega), e (54 + 7 * t + 2) (by omega) (by omega), e (54 + 7 * t + 3) (by omega) (by omega), e (54 + 7 * t + 4) (by omega) (by omega), e (54 + 7 * t + 5) (by omega) (by omega), e (54 + 7 * t + 6) (by omega) (by omega), el]
      exact gd
  · rw [w5] at s2
    rw [e (44 + s) (by omega) (by omega)]; exact i.1 s s1 s2
  · rw [w5] at s1
    rw [e (49 + s) (by omega) (by omega)]; exact i.2 s s1 s2
theorem swO_s {bt r : F1} {n : Int} {o : PO} (hn : wNm r) (h : ¬ isE (swO bt n r o)) : 0 ≤ naV bt n r True o ∧ naV bt n r True o < r 4 := by
  have hA : ¬ isE (swA bt n r o) := fun z => h (by
    unfold swO swB
    exact isE_si (isE_nu z))
  obtain ⟨a1, -, -, -, k1, -⟩ := naV_s (B := True) hn (fun z => hA (isE_pn.mpr z))
  exact ⟨(naV_b bt n r True o).1, (k1 trivial).1⟩
theorem swR_w {bt r : F1} {n : Int} {o : PO} (h : WFp r) (h6 : r 8 ≤ 6) (hO : ¬ isE (swO bt n r o)) : WFp (swR bt n r o) := by
  obtain ⟨a, b, c, d, f, g, i, j, k, l, m, q⟩ := h
  have x1 := swO_s j hO
  have b2 := nuV_b bt n (lo := 0) (hi := 999) (by decide) (swA bt n r o)
  have b3 := siV_b bt n (swB bt n r o)
  have a' := a
  unfold wHd at a'
  have e : ∀ j, j ≠ 8 → (j < 152 + 3 * r 8 ∨ 152 + 3 * r 8 + 3 ≤ j) → swR bt n r o j = r j := fun j j1 j2 => by
    unfold swR
    rw [sr_n j1, sr_n (by omega), sr_n (by omega), sr_n (by omega)]
  have v8 : swR bt n r o 8 = r 8 + 1 := sr_e
  have u0 : swR bt n r o (152 + 3 * r 8 + 0) = naV bt n r True o := by unfold swR; rw [sr_n (by omega), sr_n (by omega), sr_n (by omega), show 152 + 3 * r 8 + 0 = 152 + 3 * r 8 by omega, sr_e]
  have u1 : swR bt n r o (152 + 3 * r 8 + 1) = nuV bt n 0 999 (swA bt n r o) := by unfold swR; rw [sr_n (by omega), sr_n (by omega), sr_e]
  have u2 : swR bt n r o (152 + 3 * r 8 + 2) = siV bt n (swB bt n r o) := by unfold swR; rw [sr_n (by omega), sr_e]
  generalize swR bt n r o = r' at e v8 u0 u1 u2
  have w4 : r' 4 = r 4 := e 4 (by omega) (by omega)
  have w5 : r' 5 = r 5 := e 5 (by omega) (by omega)
  have hd : wHd r' := by
    unfold wHd
    rw [v8, w4, w5, e 6 (by omega) (by omega), e 7 (by omega) (by omega), e 0 (by omega) (by omega), e 1 (by omega) (by omega), e 2 (by omega) (by omega), e 3 (by omega) (by omega)]
    omega
  refine ⟨hd, wPa_c b (fun j j1 j2 => e j (by omega) (by omega)), wSc_c c (fun j j1 j2 => e j (by omega) (by omega)), wOn_c a d (fun j j1 j2 => e j (by omega) (by omega)) (by omega) (by omega) (e 7 (by omega) (by omega)) (fun s s1 s2 => e _ (by omega) (by omega)), fun t t1 t2 => ?_,
    wBe_c g i a (fun s s1 s2 => e _ (by omega) (by omega)) (by omega) (by omega), ⟨fun s s1 s2 => ?_, fun s s1 s2 => ?_⟩, wNm_c j (fun j j1 j2 => e j (by omega) (by omega)) w4 w5, wUq_c j k (fun j j1 j2 => e j (by omega) (by omega)), wLt_c j l (fun j j1 j2 => e j (by omega) (by omega)), wZ_c a m (fun j j1 j2 => e j (by omega) (by omega)) w4, Acy_c q (fun s s1 s2 => e _ (by omega) (by omega))⟩
  · rw [w4]
    by_cases z : t = r 8
    · subst z
      rw [u0, u1, u2]
      omega
    · have gd := f t t1 (by omega)
      rw [e (152 + 3 * t + 0) (by omega) (by omega), e (152 + 3 * t + 1) (by omega) (by omega), e (152 + 3 * t + 2) (by omega) (by omega)]
      exact gd
  · rw [w5] at s2
    rw [e (44 + s) (by omega) (by omega)]; exact i.1 s s1 s2
  · rw [w5] at s1
    rw [e (49 + s) (by omega) (by omega)]; exact i.2 s s1 s2
/-- a LINE: which sort of one it is -/
noncomputable def liK (bt : F1) (n a : Int) : Nat := pick (isW bt n (wS 28) (.inr a)) 0 (pick (isW bt n (wS 32) (.inr a)) 1 (pick (isW bt n (wS 33) (.inr a)) 2 (pick (isW bt n (wS 34) (.inr a)) 3 (pick (isW bt n (wS 35) (.inr a)) 4 (pick (isW bt n (wS 36) (.inr a)) 5 6)))))
noncomputable def liO (bt : F1) (n : Int) (r : F1) (a : Int) : PO := match liK bt n a with
  | 0 => plO bt n (bgO bt n (r 0 = 0) 3 a)
  | 1 => ptO bt n r (bgO bt n (r 4 < 7) 5 a)
  | 2 => scO bt n r (bgO bt n (r 5 < 5) 5 a)
  | 3 => afO bt n r (bgO bt n (r 6 < 6) 5 a)
  | 4 => onO bt n r (bgO bt n (r 7 < 14) 5 a)
  | 5 => swO bt n r (bgO bt n (r 8 < 7) 5 a)
  | _ => .inl (1, a)
noncomputable def liR (bt : F1) (n : Int) (r : F1) (a : Int) : F1 := match liK bt n a with
  | 0 => plR bt n r (bgO bt n (r 0 = 0) 3 a)
  | 1 => ptR bt n r (bgO bt n (r 4 < 7) 5 a)
  | 2 => scR bt n r (bgO bt n (r 5 < 5) 5 a)
  | 3 => afR bt n r (bgO bt n (r 6 < 6) 5 a)
  | 4 => onR bt n r (bgO bt n (r 7 < 14) 5 a)
  | 5 => swR bt n r (bgO bt n (r 8 < 7) 5 a)
  | _ => r
theorem li_0 {bt r : F1} {n a : Int} (h : liK bt n a = 0) : liO bt n r a = plO bt n (bgO bt n (r 0 = 0) 3 a) ∧ liR bt n r a = plR bt n r (bgO bt n (r 0 = 0) 3 a) := by unfold liO liR; rw [h]; exact ⟨rfl, rfl⟩
theorem li_1 {bt r : F1} {n a : Int} (h : liK bt n a = 1) : liO bt n r a = ptO bt n r (bgO bt n (r 4 < 7) 5 a) ∧ liR bt n r a = ptR bt n r (bgO bt n (r 4 < 7) 5 a) := by unfold liO liR; rw [h]; exact ⟨rfl, rfl⟩
theorem li_2 {bt r : F1} {n a : Int} (h : liK bt n a = 2) : liO bt n r a = scO bt n r (bgO bt n (r 5 < 5) 5 a) ∧ liR bt n r a = scR bt n r (bgO bt n (r 5 < 5) 5 a) := by unfold liO liR; rw [h]; exact ⟨rfl, rfl⟩
theorem li_3 {bt r : F1} {n a : Int} (h : liK bt n a = 3) : liO bt n r a = afO bt n r (bgO bt n (r 6 < 6) 5 a) ∧ liR bt n r a = afR bt n r (bgO bt n (r 6 < 6) 5 a) := by unfold liO liR; rw [h]; exact ⟨rfl, rfl⟩
theorem li_4 {bt r : F1} {n a : Int} (h : liK bt n a = 4) : liO bt n r a = onO bt n r (bgO bt n (r 7 < 14) 5 a) ∧ liR bt n r a = onR bt n r (bgO bt n (r 7 < 14) 5 a) := by unfold liO liR; rw [h]; exact ⟨rfl, rfl⟩
theorem li_5 {bt r : F1} {n a : Int} (h : liK bt n a = 5) : liO bt n r a = swO bt n r (bgO bt n (r 8 < 7) 5 a) ∧ liR bt n r a = swR bt n r (bgO bt n (r 8 < 7) 5 a) := by unfold liO liR; rw [h]; exact ⟨rfl, rfl⟩
theorem li_6 {bt r : F1} {n a : Int} (h : liK bt n a = 6) : liO bt n r a = .inl (1, a) := by unfold liO; rw [h]; rfl
theorem liK_c (bt : F1) (n a : Int) : (liK bt n a = 0 ∧ isW bt n (wS 28) (.inr a)) ∨ (¬ isW bt n (wS 28) (.inr a) ∧ ((liK bt n a = 1 ∧ isW bt n (wS 32) (.inr a)) ∨ (¬ isW bt n (wS 32) (.inr a) ∧ ((liK bt n a = 2 ∧ isW bt n (wS 33) (.inr a)) ∨ (¬ isW bt n (wS 33) (.inr a) ∧ ((liK bt n a = 3 ∧ isW bt n (wS 34) (.inr a)) ∨ (¬ isW bt n (wS 34) (.inr a) ∧ ((liK bt n a = 4 ∧ isW bt n (wS 35) (.inr a)) ∨ (¬ isW bt n (wS 35) (.inr a) ∧ ((liK bt n a = 5 ∧ isW bt n (wS 36) (.inr a)) ∨ (¬ isW bt n (wS 36) (.inr a) ∧ liK bt n a = 6))))))))))) := by
  unfold liK
  by_cases h0 : isW bt n (wS 28) (.inr a)
  · exact Or.inl ⟨pick_t h0, h0⟩
  refine Or.inr ⟨h0, ?_⟩
  rw [pick_f h0]
  by_cases h1 : isW bt n (wS 32) (.inr a)
  · exact Or.inl ⟨pick_t h1, h1⟩
  refine Or.inr ⟨h1, ?_⟩
  rw [pick_f h1]
  by_cases h2 : isW bt n (wS 33) (.inr a)
  · exact Or.inl ⟨pick_t h2, h2⟩
  refine Or.inr ⟨h2, ?_⟩
  rw [pick_f h2]
  by_cases h3 : isW bt n (wS 34) (.inr a)
  · exact Or.inl ⟨pick_t h3, h3⟩
  refine Or.inr ⟨h3, ?_⟩
  rw [pick_f h3]
  by_cases h4 : isW bt n (wS 35) (.inr a)
  · exact Or.inl ⟨pick_t h4, h4⟩
  refine Or.inr ⟨h4, ?_⟩
  rw [pick_f h4]
  by_cases h5 : isW bt n (wS 36) (.inr a)
  · exact Or.inl ⟨pick_t h5, h5⟩
  · exact Or.inr ⟨h5, pick_f h5⟩
theorem liR_w {bt r : F1} {n a : Int} (h : WFp r) (hO : ¬ isE (liO bt n r a)) : WFp (liR bt n r a) := by
  rcases liK_c bt n a with ⟨k, -⟩ | ⟨-, ⟨k, -⟩ | ⟨-, ⟨k, -⟩ | ⟨-, ⟨k, -⟩ | ⟨-, ⟨k, -⟩ | ⟨-, ⟨k, -⟩ | ⟨-, k⟩⟩⟩⟩⟩⟩
  · rw [(li_0 k).2]; exact plR_w h
  · rw [(li_1 k).1] at hO
    rw [(li_1 k).2]
    have := (bgO_s (fun z => ptO_A hO (isE_nn z))).1
    exact ptR_w h (by omega) hO
  · rw [(li_2 k).1] at hO
    rw [(li_2 k).2]
    have := (bgO_s (fun z => scO_A hO (isE_nn z))).1
    exact scR_w h (by omega) hO
  · rw [(li_3 k).1] at hO
    rw [(li_3 k).2]
    have hb : ¬ isE (bgO bt n (r 6 < 6) 5 a) := fun z => hO (by
      have y : isE (afB bt n r (bgO bt n (r 6 < 6) 5 a)) := isE_na (isE_pn.mpr (isE_na z))
      obtain ⟨q, hq⟩ := isE_t y
      unfold afO; rw [hq]; trivial)
    have := (bgO_s hb).1
    exact afR_w h (by omega) hO
  · rw [(li_4 k).1] at hO
    rw [(li_4 k).2]
    have hb : ¬ isE (bgO bt n (r 7 < 14) 5 a) := fun z => hO (by
      unfold onO onH onG onE onD onB onA
      exact isE_tk (isE_si (isE_si (isE_nu (isE_mu (isE_nu (isE_pn.mpr (isE_na (isE_pn.mpr (isE_na z))))))))))
    have := (bgO_s hb).1
    exact onR_w h (by omega) hO
  · rw [(li_5 k).1] at hO
    rw [(li_5 k).2]
    have hb : ¬ isE (bgO bt n (r 8 < 7) 5 a) := fun z => hO (by
      unfold swO swB swA
      exact isE_si (isE_nu (isE_pn.mpr (isE_na z))))
    have := (bgO_s hb).1
    exact swR_w h (by omega) hO
  · rw [li_6 k] at hO; exact absurd trivial hO
theorem c_X12_begins2 {E : ET} {I : MI} {L : ML} {R : MR} {Q : QT} {bt r : F1} {n a num b : Int} {C : Prop} {k : Nat} {q9 : ST0} (hT : Topo R) (hn : 0 ≤ n ∧ n ≤ 900) (hb : ∀ k, 0 ≤ k → k < n → 0 ≤ bt k ∧ bt k ≤ 255) (hk : STRS[k]? = some q9) (hm : 0 ≤ num ∧ num ≤ 9) (hS : RSt I bt n r (.inr a)) (eb : bI C = b)
    (h : ∀ I', RFr I I' → RSt I' bt n r (pick (isW bt n (wS k) (.inr a)) (bgO bt n C num a) (.inr a)) → Q (some (vi (bI (isW bt n (wS k) (.inr a))))) I' L R) : CT E M_X12_begins 161 yX12_begins [vr 138, vq 0 k, vi b, vi num] I L R Q := by
  subst eb
  refine c_X12_begins hT hn hb hk hm hS ⟨fun hw I' q1 q2 => ?_, fun hw => ?_⟩
  · rw [pick_t hw, bI_t hw] at h
    exact h I' q1 q2
  · rw [pick_f hw, bI_f hw] at h
    exact h I RFr.rf hS
theorem liK_6 (bt : F1) (n a : Int) : liK bt n a ≤ 6 := by
  rcases liK_c bt n a with ⟨k, -⟩ | ⟨-, ⟨k, -⟩ | ⟨-, ⟨k, -⟩ | ⟨-, ⟨k, -⟩ | ⟨-, ⟨k, -⟩ | ⟨-, ⟨k, -⟩ | ⟨-, k⟩⟩⟩⟩⟩⟩ <;> omega
theorem liK_i0 (bt : F1) (n a : Int) (h : liK bt n a ≥ 0) : liK bt n a = 0 ↔ isW bt n (wS 28) (.inr a) := by
  rcases liK_c bt n a with ⟨k, y0⟩ | ⟨x0, ⟨k, y1⟩ | ⟨x1, ⟨k, y2⟩ | ⟨x2, ⟨k, y3⟩ | ⟨x3, ⟨k, y4⟩ | ⟨x4, ⟨k, y5⟩ | ⟨x5, k⟩⟩⟩⟩⟩⟩ <;> first | omega | exact ⟨fun _ => by assumption, fun _ => k⟩ | exact ⟨fun z => by omega, fun z => absurd z (by assumption)⟩
theorem liK_i1 (bt : F1) (n a : Int) (h : liK bt n a ≥ 1) : liK bt n a = 1 ↔ isW bt n (wS 32) (.inr a) := by
  rcases liK_c bt n a with ⟨k, y0⟩ | ⟨x0, ⟨k, y1⟩ | ⟨x1, ⟨k, y2⟩ | ⟨x2, ⟨k, y3⟩ | ⟨x3, ⟨k, y4⟩ | ⟨x4, ⟨k, y5⟩ | ⟨x5, k⟩⟩⟩⟩⟩⟩ <;> first | omega | exact ⟨fun _ => by assumption, fun _ => k⟩ | exact ⟨fun z => by omega, fun z => absurd z (by assumption)⟩
theorem liK_i2 (bt : F1) (n a : Int) (h : liK bt n a ≥ 2) : liK bt n a = 2 ↔ isW bt n (wS 33) (.inr a) := by
  rcases liK_c bt n a with ⟨k, y0⟩ | ⟨x0, ⟨k, y1⟩ | ⟨x1, ⟨k, y2⟩ | ⟨x2, ⟨k, y3⟩ | ⟨x3, ⟨k, y4⟩ | ⟨x4, ⟨k, y5⟩ | ⟨x5, k⟩⟩⟩⟩⟩⟩ <;> first | omega | exact ⟨fun _ => by assumption, fun _ => k⟩ | exact ⟨fun z => by omega, fun z => absurd z (by assumption)⟩
theorem liK_i3 (bt : F1) (n a : Int) (h : liK bt n a ≥ 3) : liK bt n a = 3 ↔ isW bt n (wS 34) (.inr a) := by
  rcases liK_c bt n a with ⟨k, y0⟩ | ⟨x0, ⟨k, y1⟩ | ⟨x1, ⟨k, y2⟩ | ⟨x2, ⟨k, y3⟩ | ⟨x3, ⟨k, y4⟩ | ⟨x4, ⟨k, y5⟩ | ⟨x5, k⟩⟩⟩⟩⟩⟩ <;> first | omega | exact ⟨fun _ => by assumption, fun _ => k⟩ | exact ⟨fun z => by omega, fun z => absurd z (by assumption)⟩
theorem liK_i4 (bt : F1) (n a : Int) (h : liK bt n a ≥ 4) : liK bt n a = 4 ↔ isW bt n (wS 35) (.inr a) := by
  rcases liK_c bt n a with ⟨k, y0⟩ | ⟨x0, ⟨k, y1⟩ | ⟨x1, ⟨k, y2⟩ | ⟨x2, ⟨k, y3⟩ | ⟨x3, ⟨k, y4⟩ | ⟨x4, ⟨k, y5⟩ | ⟨x5, k⟩⟩⟩⟩⟩⟩ <;> first | omega | exact ⟨fun _ => by assumption, fun _ => k⟩ | exact ⟨fun z => by omega, fun z => absurd z (by assumption)⟩
theorem liK_i5 (bt : F1) (n a : Int) (h : liK bt n a ≥ 5) : liK bt n a = 5 ↔ isW bt n (wS 36) (.inr a) := by
  rcases liK_c bt n a with ⟨k, y0⟩ | ⟨x0, ⟨k, y1⟩ | ⟨x1, ⟨k, y2⟩ | ⟨x2, ⟨k, y3⟩ | ⟨x3, ⟨k, y4⟩ | ⟨x4, ⟨k, y5⟩ | ⟨x5, k⟩⟩⟩⟩⟩⟩ <;> first | omega | exact ⟨fun _ => by assumption, fun _ => k⟩ | exact ⟨fun z => by omega, fun z => absurd z (by assumption)⟩
set_option maxHeartbeats 4000000 in
theorem c_X12_readLine {E : ET} {I : MI} {L : ML} {R : MR} {Q : Option AV → MI → ML → MR → Prop} {bt r : F1} {n a : Int} (hT : Topo R) (hn : 0 ≤ n ∧ n ≤ 900) (hb : ∀ k, 0 ≤ k → k < n → 0 ≤ bt k ∧ bt k ≤ 255) (hW : WFp r) (hS : RSt I bt n r (.inr a)) (h : ∀ I' r', RFr I I' → RSt I' bt n r' (liO bt n r a) → (¬ isE (liO bt n r a) → r' = liR bt n r a) → Q none I' L R) : CT E M_X12_readLine 161 yX12_readLine [(vr (138))] I L R Q := by
  refine CT_of rfl rfl (fun h => by cases h) (Nat.le_of_ble_eq_true rfl) (fun X => ?_)
  show V X _ z0 0 [some (vr (138))] [] I L R _
  have hd := hW.1
  unfold wHd at hd
  have s198 : liK bt n a = 6 → ∀ I0, RFr I I0 → RSt I0 bt n r (.inr a) → V X M_X12_readLine z0 198 [some (vr (138))] [] (I0) L R (RT X M_X12_readLine Q) := by
    intro k I0 hF hS
    rw [li_6 k] at h
    refine s_aload_n 199 dX12_readLine_198 rfl rfl ?_
    refine s_iconst 200 dX12_readLine_199 rfl ?_
    refine s_aload_n 201 dX12_readLine_200 rfl rfl ?_
    refine s_getI 204 dX12_readLine_201 rfl fl_X12_100 (fun _ _ _ _ => rfl) sh_138 (Nat.le_of_ble_eq_true rfl) (fun r_201 => ?_)
    refine s_callV0 (M' := M_X12_wrong) (as := [_, _]) 207 dX12_readLine_204 rfl cw_X12_146 rfl rfl sh_138 rfl (by decide) (Nat.le_of_ble_eq_true rfl) (Nat.le_of_ble_eq_true rfl) (Nat.le_of_ble_eq_true rfl) (Nat.le_of_ble_eq_true rfl) ⟨rfl, rfl, rfl⟩ ?_
    refine c_X12_wrong hS hS.at2 (by decide) (by omega) (fun I2 q1 q2 => ?_)
    refine s_vret dX12_readLine_207 rfl rfl ?_
    exact h I2 _ (hF.tr q1) q2 (fun z => absurd trivial z)
  have s164 : (liK bt n a = 5 ↔ isW bt n (wS 36) (.inr a)) → liK bt n a ≥ 5 → ∀ I0, RFr I I0 → RSt I0 bt n r (.inr a) → V X M_X12_readLine z0 164 [some (vr (138))] [] (I0) L R (RT X M_X12_readLine Q) := by
    intro hk hge I0 hF hS
    have go : ∀ I1, RFr I I1 → RSt I1 bt n r (pick (isW bt n (wS 36) (.inr a)) (bgO bt n (r 8 < 7) 5 a) (.inr a)) → V X M_X12_readLine z0 188 [some (vr (138))] [(vi (bI (isW bt n (wS 36) (.inr a))))] (I1) L R (RT X M_X12_readLine Q) := by
      intro I1 q1 q2
      by_cases hw : isW bt n (wS 36) (.inr a)
      · rw [pick_t hw] at q2
        have e := li_5 (r := r) (hk.mpr hw)
        rw [e.1, e.2] at h
        refine s_ifb_eq 198 191 dX12_readLine_188 rfl rfl (fun h_188 => by exfalso; exact absurd hw h_188) (fun h_188 => ?_)
        refine s_aload_n 192 dX12_readLine_191 rfl rfl ?_
        refine s_callV0 (M' := M_X12_sawLine) (as := []) 195 dX12_readLine_192 rfl cw_X12_238 rfl rfl sh_138 rfl (by decide) (Nat.le_of_ble_eq_true rfl) (Nat.le_of_ble_eq_true rfl) (Nat.le_of_ble_eq_true rfl) (Nat.le_of_ble_eq_true rfl) ⟨rfl, rfl, rfl⟩ ?_
        refine c_X12_sawLine hT hn hb ⟨by omega, by omega⟩ q2 (fun I2 r2 q3 q4 q5 => ?_)
        refine s_goto 207 dX12_readLine_195 rfl ?_
        refine s_vret dX12_readLine_207 rfl rfl ?_
        exact h I2 r2 (q1.tr q3) q4 q5
      · rw [pick_f hw] at q2
        have hne : liK bt n a ≠ 5 := fun z => hw (hk.mp z)
        refine s_ifb_eq 198 191 dX12_readLine_188 rfl rfl (fun h_188 => ?_) (fun h_188 => by exfalso; exact absurd h_188 hw)
        exact s198 (by have := liK_6 bt n a; omega) I1 q1 q2
    by_cases hC : r 8 < 7
    · skip
      refine s_aload_n 165 dX12_readLine_164 rfl rfl ?_
      refine s_ldcS 167 dX12_readLine_165 rfl (ks_X12_160) ?_
      refine s_aload_n 168 dX12_readLine_167 rfl rfl ?_
      refine s_getR 171 dX12_readLine_168 rfl fl_X12_23 (fun _ _ _ _ => rfl) (T_X12_fresh hT) sh_138 (Nat.le_of_ble_eq_true rfl) ?_
      refine s_bipush 173 dX12_readLine_171 rfl (by decide) ?_
      refine s_iald 174 dX12_readLine_173 rfl sh_142 (Nat.le_of_ble_eq_true rfl) (by omega) (by omega) (fun r_173 => ?_)
      rw [hS.2.2.1] at r_173 ⊢
      refine s_bipush 176 dX12_readLine_174 rfl (by decide) ?_
      refine s_icmp_ge 183 179 dX12_readLine_176 rfl rfl (by first | omega | exact bI_r _ | exact iI_r _) (by first | omega | exact bI_r _ | exact iI_r _) (fun h_176 => by exfalso; omega) (fun h_176 => ?_)
      refine s_iconst 180 dX12_readLine_179 rfl ?_
      refine s_goto 184 dX12_readLine_180 rfl ?_
      refine s_iconst 185 dX12_readLine_184 rfl ?_
      refine s_callV0 (M' := M_X12_begins) (as := [_, _, _]) 188 dX12_readLine_185 rfl cw_X12_219 rfl rfl sh_138 rfl (by decide) (Nat.le_of_ble_eq_true rfl) (Nat.le_of_ble_eq_true rfl) (Nat.le_of_ble_eq_true rfl) (Nat.le_of_ble_eq_true rfl) ⟨rfl, rfl, rfl⟩ ?_
      refine c_X12_begins2 (k := 36) (C := r 8 < 7) hT hn hb rfl (by decide) hS (bI_t hC) (fun I1 q1 q2 => ?_)
      exact go I1 (hF.tr q1) q2
    · skip
      refine s_aload_n 165 dX12_readLine_164 rfl rfl ?_
      refine s_ldcS 167 dX12_readLine_165 rfl (ks_X12_160) ?_
      refine s_aload_n 168 dX12_readLine_167 rfl rfl ?_
      refine s_getR 171 dX12_readLine_168 rfl fl_X12_23 (fun _ _ _ _ => rfl) (T_X12_fresh hT) sh_138 (Nat.le_of_ble_eq_true rfl) ?_
      refine s_bipush 173 dX12_readLine_171 rfl (by decide) ?_
      refine s_iald 174 dX12_readLine_173 rfl sh_142 (Nat.le_of_ble_eq_true rfl) (by omega) (by omega) (fun r_173 => ?_)
      rw [hS.2.2.1] at r_173 ⊢
      refine s_bipush 176 dX12_readLine_174 rfl (by decide) ?_
      refine s_icmp_ge 183 179 dX12_readLine_176 rfl rfl (by first | omega | exact bI_r _ | exact iI_r _) (by first | omega | exact bI_r _ | exact iI_r _) (fun h_176 => ?_) (fun h_176 => by exfalso; omega)
      refine s_iconst 184 dX12_readLine_183 rfl ?_
      refine s_iconst 185 dX12_readLine_184 rfl ?_
      refine s_callV0 (M' := M_X12_begins) (as := [_, _, _]) 188 dX12_readLine_185 rfl cw_X12_219 rfl rfl sh_138 rfl (by decide) (Nat.le_of_ble_eq_true rfl) (Nat.le_of_ble_eq_true rfl) (Nat.le_of_ble_eq_true rfl) (Nat.le_of_ble_eq_true rfl) ⟨rfl, rfl, rfl⟩ ?_
      refine c_X12_begins2 (k := 36) (C := r 8 < 7) hT hn hb rfl (by decide) hS (bI_f hC) (fun I1 q1 q2 => ?_)
      exact go I1 (hF.tr q1) q2
  have s130 : (liK bt n a = 4 ↔ isW bt n (wS 35) (.inr a)) → liK bt n a ≥ 4 → ∀ I0, RFr I I0 → RSt I0 bt n r (.inr a) → V X M_X12_readLine z0 130 [some (vr (138))] [] (I0) L R (RT X M_X12_readLine Q) := by
    intro hk hge I0 hF hS
    have go : ∀ I1, RFr I I1 → RSt I1 bt n r (pick (isW bt n (wS 35) (.inr a)) (bgO bt n (r 7 < 14) 5 a) (.inr a)) → V X M_X12_readLine z0 154 [some (vr (138))] [(vi (bI (isW bt n (wS 35) (.inr a))))] (I1) L R (RT X M_X12_readLine Q) := by
      intro I1 q1 q2
      by_cases hw : isW bt n (wS 35) (.inr a)
      · rw [pick_t hw] at q2
        have e := li_4 (r := r) (hk.mpr hw)
        rw [e.1, e.2] at h
        refine s_ifb_eq 164 157 dX12_readLine_154 rfl rfl (fun h_154 => by exfalso; exact absurd hw h_154) (fun h_154 => ?_)
        refine s_aload_n 158 dX12_readLine_157 rfl rfl ?_
        refine s_callV0 (M' := M_X12_onLine) (as := []) 161 dX12_readLine_158 rfl cw_X12_235 rfl rfl sh_138 rfl (by decide) (Nat.le_of_ble_eq_true rfl) (Nat.le_of_ble_eq_true rfl) (Nat.le_of_ble_eq_true rfl) (Nat.le_of_ble_eq_true rfl) ⟨rfl, rfl, rfl⟩ ?_
        refine c_X12_onLine hT hn hb ⟨by omega, by omega⟩ (fun z => by have := (bgO_s z).1; omega) (onL_b hW) q2 (fun I2 r2 q3 q4 q5 => ?_)
        refine s_goto 207 dX12_readLine_161 rfl ?_
        refine s_vret dX12_readLine_207 rfl rfl ?_
        exact h I2 r2 (q1.tr q3) q4 q5
      · rw [pick_f hw] at q2
        have hne : liK bt n a ≠ 4 := fun z => hw (hk.mp z)
        refine s_ifb_eq 164 157 dX12_readLine_154 rfl rfl (fun h_154 => ?_) (fun h_154 => by exfalso; exact absurd h_154 hw)
        exact s164 (liK_i5 bt n a (by omega)) (by omega) I1 q1 q2
    by_cases hC : r 7 < 14
    · skip
      refine s_aload_n 131 dX12_readLine_130 rfl rfl ?_
      refine s_ldcS 133 dX12_readLine_131 rfl (ks_X12_158) ?_
      refine s_aload_n 134 dX12_readLine_133 rfl rfl ?_
      refine s_getR 137 dX12_readLine_134 rfl fl_X12_23 (fun _ _ _ _ => rfl) (T_X12_fresh hT) sh_138 (Nat.le_of_ble_eq_true rfl) ?_
      refine s_bipush 139 dX12_readLine_137 rfl (by decide) ?_
      refine s_iald 140 dX12_readLine_139 rfl sh_142 (Nat.le_of_ble_eq_true rfl) (by omega) (by omega) (fun r_139 => ?_)
      rw [hS.2.2.1] at r_139 ⊢
      refine s_bipush 142 dX12_readLine_140 rfl (by decide) ?_
      refine s_icmp_ge 149 145 dX12_readLine_142 rfl rfl (by first | omega | exact bI_r _ | exact iI_r _) (by first | omega | exact bI_r _ | exact iI_r _) (fun h_142 => by exfalso; omega) (fun h_142 => ?_)
      refine s_iconst 146 dX12_readLine_145 rfl ?_
      refine s_goto 150 dX12_readLine_146 rfl ?_
      refine s_iconst 151 dX12_readLine_150 rfl ?_
      refine s_callV0 (M' := M_X12_begins) (as := [_, _, _]) 154 dX12_readLine_151 rfl cw_X12_219 rfl rfl sh_138 rfl (by decide) (Nat.le_of_ble_eq_true rfl) (Nat.le_of_ble_eq_true rfl) (Nat.le_of_ble_eq_true rfl) (Nat.le_of_ble_eq_true rfl) ⟨rfl, rfl, rfl⟩ ?_
      refine c_X12_begins2 (k := 35) (C := r 7 < 14) hT hn hb rfl (by decide) hS (bI_t hC) (fun I1 q1 q2 => ?_)
      exact go I1 (hF.tr q1) q2
    · skip
      refine s_aload_n 131 dX12_readLine_130 rfl rfl ?_
      refine s_ldcS 133 dX12_readLine_131 rfl (ks_X12_158) ?_
      refine s_aload_n 134 dX12_readLine_133 rfl rfl ?_
      refine s_getR 137 dX12_readLine_134 rfl fl_X12_23 (fun _ _ _ _ => rfl) (T_X12_fresh hT) sh_138 (Nat.le_of_ble_eq_true rfl) ?_
      refine s_bipush 139 dX12_readLine_137 rfl (by decide) ?_
      refine s_iald 140 dX12_readLine_139 rfl sh_142 (Nat.le_of_ble_eq_true rfl) (by omega) (by omega) (fun r_139 => ?_)
      rw [hS.2.2.1] at r_139 ⊢
      refine s_bipush 142 dX12_readLine_140 rfl (by decide) ?_
      refine s_icmp_ge 149 145 dX12_readLine_142 rfl rfl (by first | omega | exact bI_r _ | exact iI_r _) (by first | omega | exact bI_r _ | exact iI_r _) (fun h_142 => ?_) (fun h_142 => by exfalso; omega)
      refine s_iconst 150 dX12_readLine_149 rfl ?_
      refine s_iconst 151 dX12_readLine_150 rfl ?_
      refine s_callV0 (M' := M_X12_begins) (as := [_, _, _]) 154 dX12_readLine_151 rfl cw_X12_219 rfl rfl sh_138 rfl (by decide) (Nat.le_of_ble_eq_true rfl) (Nat.le_of_ble_eq_true rfl) (Nat.le_of_ble_eq_true rfl) (Nat.le_of_ble_eq_true rfl) ⟨rfl, rfl, rfl⟩ ?_
      refine c_X12_begins2 (k := 35) (C := r 7 < 14) hT hn hb rfl (by decide) hS (bI_f hC) (fun I1 q1 q2 => ?_)
      exact go I1 (hF.tr q1) q2
  have s96 : (liK bt n a = 3 ↔ isW bt n (wS 34) (.inr a)) → liK bt n a ≥ 3 → ∀ I0, RFr I I0 → RSt I0 bt n r (.inr a) → V X M_X12_readLine z0 96 [some (vr (138))] [] (I0) L R (RT X M_X12_readLine Q) := by
    intro hk hge I0 hF hS
    have go : ∀ I1, RFr I I1 → RSt I1 bt n r (pick (isW bt n (wS 34) (.inr a)) (bgO bt n (r 6 < 6) 5 a) (.inr a)) → V X M_X12_readLine z0 120 [some (vr (138))] [(vi (bI (isW bt n (wS 34) (.inr a))))] (I1) L R (RT X M_X12_readLine Q) := by
      intro I1 q1 q2
      by_cases hw : isW bt n (wS 34) (.inr a)
      · rw [pick_t hw] at q2
        have e := li_3 (r := r) (hk.mpr hw)
        rw [e.1, e.2] at h
        refine s_ifb_eq 130 123 dX12_readLine_120 rfl rfl (fun h_120 => by exfalso; exact absurd hw h_120) (fun h_120 => ?_)
        refine s_aload_n 124 dX12_readLine_123 rfl rfl ?_
        refine s_callV0 (M' := M_X12_afterLine) (as := []) 127 dX12_readLine_124 rfl cw_X12_232 rfl rfl sh_138 rfl (by decide) (Nat.le_of_ble_eq_true rfl) (Nat.le_of_ble_eq_true rfl) (Nat.le_of_ble_eq_true rfl) (Nat.le_of_ble_eq_true rfl) ⟨rfl, rfl, rfl⟩ ?_
        refine c_X12_afterLine hT hn hb (fun s s1 s2 => (hW.2.2.1 s s1 s2).2.2) ⟨by omega, by omega⟩ q2 (fun I2 r2 q3 q4 q5 => ?_)
        refine s_goto 207 dX12_readLine_127 rfl ?_
        refine s_vret dX12_readLine_207 rfl rfl ?_
        exact h I2 r2 (q1.tr q3) q4 q5
      · rw [pick_f hw] at q2
        have hne : liK bt n a ≠ 3 := fun z => hw (hk.mp z)
        refine s_ifb_eq 130 123 dX12_readLine_120 rfl rfl (fun h_120 => ?_) (fun h_120 => by exfalso; exact absurd h_120 hw)
        exact s130 (liK_i4 bt n a (by omega)) (by omega) I1 q1 q2
    by_cases hC : r 6 < 6
    · skip
      refine s_aload_n 97 dX12_readLine_96 rfl rfl ?_
      refine s_ldcS 99 dX12_readLine_97 rfl (ks_X12_156) ?_
      refine s_aload_n 100 dX12_readLine_99 rfl rfl ?_
      refine s_getR 103 dX12_readLine_100 rfl fl_X12_23 (fun _ _ _ _ => rfl) (T_X12_fresh hT) sh_138 (Nat.le_of_ble_eq_true rfl) ?_
      refine s_bipush 105 dX12_readLine_103 rfl (by decide) ?_
      refine s_iald 106 dX12_readLine_105 rfl sh_142 (Nat.le_of_ble_eq_true rfl) (by omega) (by omega) (fun r_105 => ?_)
      rw [hS.2.2.1] at r_105 ⊢
      refine s_bipush 108 dX12_readLine_106 rfl (by decide) ?_
      refine s_icmp_ge 115 111 dX12_readLine_108 rfl rfl (by first | omega | exact bI_r _ | exact iI_r _) (by first | omega | exact bI_r _ | exact iI_r _) (fun h_108 => by exfalso; omega) (fun h_108 => ?_)
      refine s_iconst 112 dX12_readLine_111 rfl ?_
      refine s_goto 116 dX12_readLine_112 rfl ?_
      refine s_iconst 117 dX12_readLine_116 rfl ?_
      refine s_callV0 (M' := M_X12_begins) (as := [_, _, _]) 120 dX12_readLine_117 rfl cw_X12_219 rfl rfl sh_138 rfl (by decide) (Nat.le_of_ble_eq_true rfl) (Nat.le_of_ble_eq_true rfl) (Nat.le_of_ble_eq_true rfl) (Nat.le_of_ble_eq_true rfl) ⟨rfl, rfl, rfl⟩ ?_
      refine c_X12_begins2 (k := 34) (C := r 6 < 6) hT hn hb rfl (by decide) hS (bI_t hC) (fun I1 q1 q2 => ?_)
      exact go I1 (hF.tr q1) q2
    · skip
      refine s_aload_n 97 dX12_readLine_96 rfl rfl ?_
      refine s_ldcS 99 dX12_readLine_97 rfl (ks_X12_156) ?_
      refine s_aload_n 100 dX12_readLine_99 rfl rfl ?_
      refine s_getR 103 dX12_readLine_100 rfl fl_X12_23 (fun _ _ _ _ => rfl) (T_X12_fresh hT) sh_138 (Nat.le_of_ble_eq_true rfl) ?_
      refine s_bipush 105 dX12_readLine_103 rfl (by decide) ?_
      refine s_iald 106 dX12_readLine_105 rfl sh_142 (Nat.le_of_ble_eq_true rfl) (by omega) (by omega) (fun r_105 => ?_)
      rw [hS.2.2.1] at r_105 ⊢
      refine s_bipush 108 dX12_readLine_106 rfl (by decide) ?_
      refine s_icmp_ge 115 111 dX12_readLine_108 rfl rfl (by first | omega | exact bI_r _ | exact iI_r _) (by first | omega | exact bI_r _ | exact iI_r _) (fun h_108 => ?_) (fun h_108 => by exfalso; omega)
      refine s_iconst 116 dX12_readLine_115 rfl ?_
      refine s_iconst 117 dX12_readLine_116 rfl ?_
      refine s_callV0 (M' := M_X12_begins) (as := [_, _, _]) 120 dX12_readLine_117 rfl cw_X12_219 rfl rfl sh_138 rfl (by decide) (Nat.le_of_ble_eq_true rfl) (Nat.le_of_ble_eq_true rfl) (Nat.le_of_ble_eq_true rfl) (Nat.le_of_ble_eq_true rfl) ⟨rfl, rfl, rfl⟩ ?_
      refine c_X12_begins2 (k := 34) (C := r 6 < 6) hT hn hb rfl (by decide) hS (bI_f hC) (fun I1 q1 q2 => ?_)
      exact go I1 (hF.tr q1) q2
  have s64 : (liK bt n a = 2 ↔ isW bt n (wS 33) (.inr a)) → liK bt n a ≥ 2 → ∀ I0, RFr I I0 → RSt I0 bt n r (.inr a) → V X M_X12_readLine z0 64 [some (vr (138))] [] (I0) L R (RT X M_X12_readLine Q) := by
    intro hk hge I0 hF hS
    have go : ∀ I1, RFr I I1 → RSt I1 bt n r (pick (isW bt n (wS 33) (.inr a)) (bgO bt n (r 5 < 5) 5 a) (.inr a)) → V X M_X12_readLine z0 86 [some (vr (138))] [(vi (bI (isW bt n (wS 33) (.inr a))))] (I1) L R (RT X M_X12_readLine Q) := by
      intro I1 q1 q2
      by_cases hw : isW bt n (wS 33) (.inr a)
      · rw [pick_t hw] at q2
        have e := li_2 (r := r) (hk.mpr hw)
        rw [e.1, e.2] at h
        refine s_ifb_eq 96 89 dX12_readLine_86 rfl rfl (fun h_86 => by exfalso; exact absurd hw h_86) (fun h_86 => ?_)
        refine s_aload_n 90 dX12_readLine_89 rfl rfl ?_
        refine s_callV0 (M' := M_X12_sceneLine) (as := []) 93 dX12_readLine_90 rfl cw_X12_229 rfl rfl sh_138 rfl (by decide) (Nat.le_of_ble_eq_true rfl) (Nat.le_of_ble_eq_true rfl) (Nat.le_of_ble_eq_true rfl) (Nat.le_of_ble_eq_true rfl) ⟨rfl, rfl, rfl⟩ ?_
        refine c_X12_sceneLine hT hn hb ⟨by omega, by omega⟩ (fun z => by have := (bgO_s z).1; omega) q2 (fun I2 r2 q3 q4 q5 => ?_)
        refine s_goto 207 dX12_readLine_93 rfl ?_
        refine s_vret dX12_readLine_207 rfl rfl ?_
        exact h I2 r2 (q1.tr q3) q4 q5
      · rw [pick_f hw] at q2
        have hne : liK bt n a ≠ 2 := fun z => hw (hk.mp z)
        refine s_ifb_eq 96 89 dX12_readLine_86 rfl rfl (fun h_86 => ?_) (fun h_86 => by exfalso; exact absurd h_86 hw)
        exact s96 (liK_i3 bt n a (by omega)) (by omega) I1 q1 q2
    by_cases hC : r 5 < 5
    · skip
      refine s_aload_n 65 dX12_readLine_64 rfl rfl ?_
      refine s_ldcS 67 dX12_readLine_65 rfl (ks_X12_154) ?_
      refine s_aload_n 68 dX12_readLine_67 rfl rfl ?_
      refine s_getR 71 dX12_readLine_68 rfl fl_X12_23 (fun _ _ _ _ => rfl) (T_X12_fresh hT) sh_138 (Nat.le_of_ble_eq_true rfl) ?_
      refine s_iconst 72 dX12_readLine_71 rfl ?_
      refine s_iald 73 dX12_readLine_72 rfl sh_142 (Nat.le_of_ble_eq_true rfl) (by omega) (by omega) (fun r_72 => ?_)
      rw [hS.2.2.1] at r_72 ⊢
      refine s_iconst 74 dX12_readLine_73 rfl ?_
      refine s_icmp_ge 81 77 dX12_readLine_74 rfl rfl (by first | omega | exact bI_r _ | exact iI_r _) (by first | omega | exact bI_r _ | exact iI_r _) (fun h_74 => by exfalso; omega) (fun h_74 => ?_)
      refine s_iconst 78 dX12_readLine_77 rfl ?_
      refine s_goto 82 dX12_readLine_78 rfl ?_
      refine s_iconst 83 dX12_readLine_82 rfl ?_
      refine s_callV0 (M' := M_X12_begins) (as := [_, _, _]) 86 dX12_readLine_83 rfl cw_X12_219 rfl rfl sh_138 rfl (by decide) (Nat.le_of_ble_eq_true rfl) (Nat.le_of_ble_eq_true rfl) (Nat.le_of_ble_eq_true rfl) (Nat.le_of_ble_eq_true rfl) ⟨rfl, rfl, rfl⟩ ?_
      refine c_X12_begins2 (k := 33) (C := r 5 < 5) hT hn hb rfl (by decide) hS (bI_t hC) (fun I1 q1 q2 => ?_)
      exact go I1 (hF.tr q1) q2
    · skip
      refine s_aload_n 65 dX12_readLine_64 rfl rfl ?_
      refine s_ldcS 67 dX12_readLine_65 rfl (ks_X12_154) ?_
      refine s_aload_n 68 dX12_readLine_67 rfl rfl ?_
      refine s_getR 71 dX12_readLine_68 rfl fl_X12_23 (fun _ _ _ _ => rfl) (T_X12_fresh hT) sh_138 (Nat.le_of_ble_eq_true rfl) ?_
      refine s_iconst 72 dX12_readLine_71 rfl ?_
      refine s_iald 73 dX12_readLine_72 rfl sh_142 (Nat.le_of_ble_eq_true rfl) (by omega) (by omega) (fun r_72 => ?_)
      rw [hS.2.2.1] at r_72 ⊢
      refine s_iconst 74 dX12_readLine_73 rfl ?_
      refine s_icmp_ge 81 77 dX12_readLine_74 rfl rfl (by first | omega | exact bI_r _ | exact iI_r _) (by first | omega | exact bI_r _ | exact iI_r _) (fun h_74 => ?_) (fun h_74 => by exfalso; omega)
      refine s_iconst 82 dX12_readLine_81 rfl ?_
      refine s_iconst 83 dX12_readLine_82 rfl ?_
      refine s_callV0 (M' := M_X12_begins) (as := [_, _, _]) 86 dX12_readLine_83 rfl cw_X12_219 rfl rfl sh_138 rfl (by decide) (Nat.le_of_ble_eq_true rfl) (Nat.le_of_ble_eq_true rfl) (Nat.le_of_ble_eq_true rfl) (Nat.le_of_ble_eq_true rfl) ⟨rfl, rfl, rfl⟩ ?_
      refine c_X12_begins2 (k := 33) (C := r 5 < 5) hT hn hb rfl (by decide) hS (bI_f hC) (fun I1 q1 q2 => ?_)
      exact go I1 (hF.tr q1) q2
  have s31 : (liK bt n a = 1 ↔ isW bt n (wS 32) (.inr a)) → liK bt n a ≥ 1 → ∀ I0, RFr I I0 → RSt I0 bt n r (.inr a) → V X M_X12_readLine z0 31 [some (vr (138))] [] (I0) L R (RT X M_X12_readLine Q) := by
    intro hk hge I0 hF hS
    have go : ∀ I1, RFr I I1 → RSt I1 bt n r (pick (isW bt n (wS 32) (.inr a)) (bgO bt n (r 4 < 7) 5 a) (.inr a)) → V X M_X12_readLine z0 54 [some (vr (138))] [(vi (bI (isW bt n (wS 32) (.inr a))))] (I1) L R (RT X M_X12_readLine Q) := by
      intro I1 q1 q2
      by_cases hw : isW bt n (wS 32) (.inr a)
      · rw [pick_t hw] at q2
        have e := li_1 (r := r) (hk.mpr hw)
        rw [e.1, e.2] at h
        refine s_ifb_eq 64 57 dX12_readLine_54 rfl rfl (fun h_54 => by exfalso; exact absurd hw h_54) (fun h_54 => ?_)
        refine s_aload_n 58 dX12_readLine_57 rfl rfl ?_
        refine s_callV0 (M' := M_X12_partLine) (as := []) 61 dX12_readLine_58 rfl cw_X12_226 rfl rfl sh_138 rfl (by decide) (Nat.le_of_ble_eq_true rfl) (Nat.le_of_ble_eq_true rfl) (Nat.le_of_ble_eq_true rfl) (Nat.le_of_ble_eq_true rfl) ⟨rfl, rfl, rfl⟩ ?_
        refine c_X12_partLine hT hn hb ⟨by omega, by omega⟩ (fun z => by have := (bgO_s z).1; omega) hW.2.2.2.2.2.2.2.2.2.2.1 q2 (fun I2 r2 q3 q4 q5 => ?_)
        refine s_goto 207 dX12_readLine_61 rfl ?_
        refine s_vret dX12_readLine_207 rfl rfl ?_
        exact h I2 r2 (q1.tr q3) q4 q5
      · rw [pick_f hw] at q2
        have hne : liK bt n a ≠ 1 := fun z => hw (hk.mp z)
        refine s_ifb_eq 64 57 dX12_readLine_54 rfl rfl (fun h_54 => ?_) (fun h_54 => by exfalso; exact absurd h_54 hw)
        exact s64 (liK_i2 bt n a (by omega)) (by omega) I1 q1 q2
    by_cases hC : r 4 < 7
    · skip
      refine s_aload_n 32 dX12_readLine_31 rfl rfl ?_
      refine s_ldcS 34 dX12_readLine_32 rfl (ks_X12_152) ?_
      refine s_aload_n 35 dX12_readLine_34 rfl rfl ?_
      refine s_getR 38 dX12_readLine_35 rfl fl_X12_23 (fun _ _ _ _ => rfl) (T_X12_fresh hT) sh_138 (Nat.le_of_ble_eq_true rfl) ?_
      refine s_iconst 39 dX12_readLine_38 rfl ?_
      refine s_iald 40 dX12_readLine_39 rfl sh_142 (Nat.le_of_ble_eq_true rfl) (by omega) (by omega) (fun r_39 => ?_)
      rw [hS.2.2.1] at r_39 ⊢
      refine s_bipush 42 dX12_readLine_40 rfl (by decide) ?_
      refine s_icmp_ge 49 45 dX12_readLine_42 rfl rfl (by first | omega | exact bI_r _ | exact iI_r _) (by first | omega | exact bI_r _ | exact iI_r _) (fun h_42 => by exfalso; omega) (fun h_42 => ?_)
      refine s_iconst 46 dX12_readLine_45 rfl ?_
      refine s_goto 50 dX12_readLine_46 rfl ?_
      refine s_iconst 51 dX12_readLine_50 rfl ?_
      refine s_callV0 (M' := M_X12_begins) (as := [_, _, _]) 54 dX12_readLine_51 rfl cw_X12_219 rfl rfl sh_138 rfl (by decide) (Nat.le_of_ble_eq_true rfl) (Nat.le_of_ble_eq_true rfl) (Nat.le_of_ble_eq_true rfl) (Nat.le_of_ble_eq_true rfl) ⟨rfl, rfl, rfl⟩ ?_
      refine c_X12_begins2 (k := 32) (C := r 4 < 7) hT hn hb rfl (by decide) hS (bI_t hC) (fun I1 q1 q2 => ?_)
      exact go I1 (hF.tr q1) q2
    · skip
      refine s_aload_n 32 dX12_readLine_31 rfl rfl ?_
      refine s_ldcS 34 dX12_readLine_32 rfl (ks_X12_152) ?_
      refine s_aload_n 35 dX12_readLine_34 rfl rfl ?_
      refine s_getR 38 dX12_readLine_35 rfl fl_X12_23 (fun _ _ _ _ => rfl) (T_X12_fresh hT) sh_138 (Nat.le_of_ble_eq_true rfl) ?_
      refine s_iconst 39 dX12_readLine_38 rfl ?_
      refine s_iald 40 dX12_readLine_39 rfl sh_142 (Nat.le_of_ble_eq_true rfl) (by omega) (by omega) (fun r_39 => ?_)
      rw [hS.2.2.1] at r_39 ⊢
      refine s_bipush 42 dX12_readLine_40 rfl (by decide) ?_
      refine s_icmp_ge 49 45 dX12_readLine_42 rfl rfl (by first | omega | exact bI_r _ | exact iI_r _) (by first | omega | exact bI_r _ | exact iI_r _) (fun h_42 => ?_) (fun h_42 => by exfalso; omega)
      refine s_iconst 50 dX12_readLine_49 rfl ?_
      refine s_iconst 51 dX12_readLine_50 rfl ?_
      refine s_callV0 (M' := M_X12_begins) (as := [_, _, _]) 54 dX12_readLine_51 rfl cw_X12_219 rfl rfl sh_138 rfl (by decide) (Nat.le_of_ble_eq_true rfl) (Nat.le_of_ble_eq_true rfl) (Nat.le_of_ble_eq_true rfl) (Nat.le_of_ble_eq_true rfl) ⟨rfl, rfl, rfl⟩ ?_
      refine c_X12_begins2 (k := 32) (C := r 4 < 7) hT hn hb rfl (by decide) hS (bI_f hC) (fun I1 q1 q2 => ?_)
      exact go I1 (hF.tr q1) q2
  have s0 : (liK bt n a = 0 ↔ isW bt n (wS 28) (.inr a)) → liK bt n a ≥ 0 → ∀ I0, RFr I I0 → RSt I0 bt n r (.inr a) → V X M_X12_readLine z0 0 [some (vr (138))] [] (I0) L R (RT X M_X12_readLine Q) := by
    intro hk hge I0 hF hS
    have go : ∀ I1, RFr I I1 → RSt I1 bt n r (pick (isW bt n (wS 28) (.inr a)) (bgO bt n (r 0 = 0) 3 a) (.inr a)) → V X M_X12_readLine z0 21 [some (vr (138))] [(vi (bI (isW bt n (wS 28) (.inr a))))] (I1) L R (RT X M_X12_readLine Q) := by
      intro I1 q1 q2
      by_cases hw : isW bt n (wS 28) (.inr a)
      · rw [pick_t hw] at q2
        have e := li_0 (r := r) (hk.mpr hw)
        rw [e.1, e.2] at h
        refine s_ifb_eq 31 24 dX12_readLine_21 rfl rfl (fun h_21 => by exfalso; exact absurd hw h_21) (fun h_21 => ?_)
        refine s_aload_n 25 dX12_readLine_24 rfl rfl ?_
        refine s_callV0 (M' := M_X12_pieceLine) (as := []) 28 dX12_readLine_25 rfl cw_X12_223 rfl rfl sh_138 rfl (by decide) (Nat.le_of_ble_eq_true rfl) (Nat.le_of_ble_eq_true rfl) (Nat.le_of_ble_eq_true rfl) (Nat.le_of_ble_eq_true rfl) ⟨rfl, rfl, rfl⟩ ?_
        refine c_X12_pieceLine hT hn hb q2 (fun I2 r2 q3 q4 q5 => ?_)
        refine s_goto 207 dX12_readLine_28 rfl ?_
        refine s_vret dX12_readLine_207 rfl rfl ?_
        exact h I2 r2 (q1.tr q3) q4 q5
      · rw [pick_f hw] at q2
        have hne : liK bt n a ≠ 0 := fun z => hw (hk.mp z)
        refine s_ifb_eq 31 24 dX12_readLine_21 rfl rfl (fun h_21 => ?_) (fun h_21 => by exfalso; exact absurd h_21 hw)
        exact s31 (liK_i1 bt n a (by omega)) (by omega) I1 q1 q2
    by_cases hC : r 0 = 0
    · skip
      refine s_aload_n 1 dX12_readLine_0 rfl rfl ?_
      refine s_ldcS 3 dX12_readLine_1 rfl (ks_X12_150) ?_
      refine s_aload_n 4 dX12_readLine_3 rfl rfl ?_
      refine s_getR 7 dX12_readLine_4 rfl fl_X12_23 (fun _ _ _ _ => rfl) (T_X12_fresh hT) sh_138 (Nat.le_of_ble_eq_true rfl) ?_
      refine s_iconst 8 dX12_readLine_7 rfl ?_
      refine s_iald 9 dX12_readLine_8 rfl sh_142 (Nat.le_of_ble_eq_true rfl) (by omega) (by omega) (fun r_8 => ?_)
      rw [hS.2.2.1] at r_8 ⊢
      refine s_if_ne 16 12 dX12_readLine_9 rfl rfl (by first | omega | exact bI_r _ | exact iI_r _) (fun h_9 => by exfalso; omega) (fun h_9 => ?_)
      refine s_iconst 13 dX12_readLine_12 rfl ?_
      refine s_goto 17 dX12_readLine_13 rfl ?_
      refine s_iconst 18 dX12_readLine_17 rfl ?_
      refine s_callV0 (M' := M_X12_begins) (as := [_, _, _]) 21 dX12_readLine_18 rfl cw_X12_219 rfl rfl sh_138 rfl (by decide) (Nat.le_of_ble_eq_true rfl) (Nat.le_of_ble_eq_true rfl) (Nat.le_of_ble_eq_true rfl) (Nat.le_of_ble_eq_true rfl) ⟨rfl, rfl, rfl⟩ ?_
      refine c_X12_begins2 (k := 28) (C := r 0 = 0) hT hn hb rfl (by decide) hS (bI_t hC) (fun I1 q1 q2 => ?_)
      exact go I1 (hF.tr q1) q2
    · skip
      refine s_aload_n 1 dX12_readLine_0 rfl rfl ?_
      refine s_ldcS 3 dX12_readLine_1 rfl (ks_X12_150) ?_
      refine s_aload_n 4 dX12_readLine_3 rfl rfl ?_
      refine s_getR 7 dX12_readLine_4 rfl fl_X12_23 (fun _ _ _ _ => rfl) (T_X12_fresh hT) sh_138 (Nat.le_of_ble_eq_true rfl) ?_
      refine s_iconst 8 dX12_readLine_7 rfl ?_
      refine s_iald 9 dX12_readLine_8 rfl sh_142 (Nat.le_of_ble_eq_true rfl) (by omega) (by omega) (fun r_8 => ?_)
      rw [hS.2.2.1] at r_8 ⊢
      refine s_if_ne 16 12 dX12_readLine_9 rfl rfl (by first | omega | exact bI_r _ | exact iI_r _) (fun h_9 => ?_) (fun h_9 => by exfalso; omega)
      refine s_iconst 17 dX12_readLine_16 rfl ?_
      refine s_iconst 18 dX12_readLine_17 rfl ?_
      refine s_callV0 (M' := M_X12_begins) (as := [_, _, _]) 21 dX12_readLine_18 rfl cw_X12_219 rfl rfl sh_138 rfl (by decide) (Nat.le_of_ble_eq_true rfl) (Nat.le_of_ble_eq_true rfl) (Nat.le_of_ble_eq_true rfl) (Nat.le_of_ble_eq_true rfl) ⟨rfl, rfl, rfl⟩ ?_
      refine c_X12_begins2 (k := 28) (C := r 0 = 0) hT hn hb rfl (by decide) hS (bI_f hC) (fun I1 q1 q2 => ?_)
      exact go I1 (hF.tr q1) q2
  exact s0 (liK_i0 bt n a (by omega)) (by omega) I RFr.rf hS
