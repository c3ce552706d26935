/-! all of a text, by the reference -/
theorem Rep_set {G : GT} {n : Nat} {I : MI} {L : ML} {R : MR} {H : Heap} (h : Rep G n I L R H) {c N : Nat} (hs : sh c = (20, N)) {f : Int → Int} (hf : ∀ k, 0 ≤ k → k < (N : Int) → f k = I c k) (hb : ∀ k, -2147483648 ≤ f k ∧ f k ≤ 2147483647) : Rep G n (fun a => if a = c then f else I a) L R H := by
  obtain ⟨h1, h2, h3, h4⟩ := h
  refine ⟨h1, h2, fun a ha => ?_, fun a k => ?_⟩
  · have g := h3 a ha
    by_cases e : a = c
    · subst e
      rw [ent_i hs] at g
      simp only [if_true]
      rw [ent_i hs]
      have e2 : (fun j : Fin N => Value.int (iI (f j.val))) = fun j : Fin N => Value.int (iI (I a j.val)) := by
        funext j
        rw [hf j.val (by omega) (by have := j.isLt; omega)]
      have e3 : arrV (gI G) N (fun j => .int (iI (f j))) = arrV (gI G) N (fun j => .int (iI (I a j))) := by
        unfold arrV
        rw [e2]
      show H[gb G + a]? = some (arrV (gI G) N (fun j => .int (iI (f j))))
      rw [e3]
      exact g
    · simp only [if_neg e]
      exact g
  · by_cases e : a = c
    · simp only [if_pos e]; exact hb k
    · simp only [if_neg e]; exact h4 a k
theorem V_ext {X : XT} {M : MT} {z : Nat × Nat × Nat} {pc : Nat} {ls : List (Option AV)} {st : List AV} {I I' : MI} {L : ML} {R : MR} {F : State → Prop} (h : ∀ H, Rep (xG X) z.2.2 I L R H → Rep (xG X) z.2.2 I' L R H) (k : V X M z pc ls st I' L R F) : V X M z pc ls st I L R F :=
  fun ok h1 h2 H locs la hR => k ok h1 h2 H locs la (h H hR)
/-- there is an ORDER, if no SCENE comes ahead of itself -/
theorem least_un {ρ : Int → Nat} {S : Int → Prop} : ∀ (m : Nat) (s : Int), ρ s ≤ m → S s → ∃ t, S t ∧ ∀ u, S u → ρ t ≤ ρ u
  | 0, s, h, hs => ⟨s, hs, fun u _ => by omega⟩
  | m + 1, s, h, hs => by
    by_cases z : ∃ u, S u ∧ ρ u < ρ s
    · obtain ⟨u, u1, u2⟩ := z
      exact least_un m u (by omega) u1
    · exact ⟨s, hs, fun u hu => Nat.le_of_not_lt (fun y => z ⟨u, hu, y⟩)⟩
theorem ord_grow {r : F1} (hr : WFr r) (ha : Acy r) : ∀ m : Nat, (m : Int) ≤ r 5 → ∃ l : List Int, l.length = m ∧ l.Nodup ∧ (∀ x ∈ l, 0 ≤ x ∧ x < r 5) ∧ ∀ i, 0 ≤ i → i < (m : Int) → ∀ s, 0 ≤ s → s < 32 → hasI (r (49 + vL l i)) s → ∃ j, 0 ≤ j ∧ j < i ∧ vL l j = s
  | 0, _ => ⟨[], rfl, List.nodup_nil, (fun x hx => (by cases hx)), (fun i a b => (by omega))⟩
  | m + 1, hm => by
    have e0 := hr.1
    obtain ⟨l, l1, l2, l3, l4⟩ := ord_grow hr ha m (by omega)
    obtain ⟨ρ, hρ⟩ := ha
    have hex : ∃ s, (0 ≤ s ∧ s < r 5) ∧ s ∉ l := by
      apply Classical.byContradiction
      intro z
      have hall : ∀ x ∈ idl (r 5).toNat, x ∈ l := fun x hx => by
        apply Classical.byContradiction
        intro y
        unfold idl at hx
        obtain ⟨k, hk, rfl⟩ := List.mem_map.mp hx
        have := List.mem_range.mp hk
        exact z ⟨(k : Int), ⟨by omega, by omega⟩, y⟩
      have hnd : (idl (r 5).toNat).Nodup := nodup_map (v := fun k => k) (fun i j _ _ _ _ e => e)
      have := nodup_len hnd hall
      have hl : (idl (r 5).toNat).length = (r 5).toNat := by simp [idl]
      omega
    obtain ⟨s0, s1, s2⟩ := hex
    obtain ⟨t, ⟨t1, t2⟩, t3⟩ := least_un (ρ := ρ) (S := fun s => (0 ≤ s ∧ s < r 5) ∧ s ∉ l) (ρ s0) s0 (Nat.le_refl _) ⟨s1, s2⟩
    have vl : ∀ j, 0 ≤ j → j < (m : Int) → vL (l ++ [t]) j = vL l j := fun j j1 j2 => by
      unfold vL
      rw [List.getD_eq_getElem?_getD, List.getD_eq_getElem?_getD, List.getElem?_append_left (by omega)]
    have vt : vL (l ++ [t]) m = t := by
      unfold vL
      rw [List.getD_eq_getElem?_getD, Int.toNat_natCast, ← l1, List.getElem?_concat_length]
      rfl
    refine ⟨l ++ [t], by simp [l1], ?_, fun x hx => ?_, fun i i1 i2 s a b c => ?_⟩
    · rw [List.nodup_append]
      refine ⟨l2, by simp, fun x hx y hy => ?_⟩
      rw [List.mem_singleton.mp hy]
      exact fun e => t2 (by rw [← e]; exact hx)
    · rcases List.mem_append.mp hx with h | h
      · exact l3 x h
      · rw [List.mem_singleton.mp h]; exact t1
    · by_cases e : i = m
      · rw [e, vt] at c
        have hs : s < r 5 := hr.2.2.2.2.2 t t1.1 t1.2 s a b c
        have hlt := hρ t t1.1 (by omega) s a b c
        have hin : s ∈ l := by
          apply Classical.byContradiction
          intro z
          have := t3 s ⟨⟨a, hs⟩, z⟩
          omega
        obtain ⟨k, hk⟩ := List.getElem?_of_mem hin
        have hk2 : k < l.length := (List.getElem?_eq_some_iff.mp hk).1
        refine ⟨k, by omega, by omega, ?_⟩
        rw [vl k (by omega) (by omega)]
        unfold vL
        rw [List.getD_eq_getElem?_getD, Int.toNat_natCast, hk]
        rfl
      · rw [vl i i1 (by omega)] at c
        obtain ⟨j, j1, j2, j3⟩ := l4 i i1 (by omega) s a b c
        exact ⟨j, j1, by omega, by rw [vl j j1 (by omega)]; exact j3⟩
theorem perm_nodup {n : Nat} {l : List Int} (h1 : l.length = n) (h2 : l.Nodup) (h3 : ∀ x ∈ l, 0 ≤ x ∧ x < (n : Int)) : Perm n (vL l) := by
  have vm : ∀ i, 0 ≤ i → i < (n : Int) → ∃ h : i.toNat < l.length, vL l i = l[i.toNat] := fun i i1 i2 => by
    have h : i.toNat < l.length := by omega
    refine ⟨h, ?_⟩
    unfold vL
    rw [List.getD_eq_getElem?_getD, List.getElem?_eq_getElem h]
    rfl
  refine ⟨fun i i1 i2 => ?_, fun i j i1 i2 j1 j2 e => ?_, fun s s1 s2 => ?_⟩
  · obtain ⟨h, e⟩ := vm i i1 i2
    rw [e]; exact h3 _ (List.getElem_mem h)
  · obtain ⟨hi, ei⟩ := vm i i1 i2
    obtain ⟨hj, ej⟩ := vm j j1 j2
    rw [ei, ej] at e
    have := (List.getElem_inj h2).mp e
    omega
  · have hin : s ∈ l := by
      apply Classical.byContradiction
      intro z
      have hnd : (s :: l).Nodup := List.nodup_cons.mpr ⟨z, h2⟩
      have := nodup_len (L := idl n) hnd (fun x hx => by
        have hx2 : 0 ≤ x ∧ x < (n : Int) := by
          rcases List.mem_cons.mp hx with h | h
          · rw [h]; exact ⟨s1, s2⟩
          · exact h3 x h
        unfold idl
        exact List.mem_map.mpr ⟨x.toNat, List.mem_range.mpr (by omega), by omega⟩)
      have hl : (idl n).length = n := by simp [idl]
      simp at this
      omega
    obtain ⟨k, hk⟩ := List.getElem?_of_mem hin
    have hk2 : k < l.length := (List.getElem?_eq_some_iff.mp hk).1
    refine ⟨k, by omega, by omega, ?_⟩
    unfold vL
    rw [List.getD_eq_getElem?_getD, Int.toNat_natCast, hk]
    rfl
theorem ord_ex {r : F1} (hr : WFr r) (ha : Acy r) : ordL r ≠ [] := by
  have e0 := hr.1
  obtain ⟨l, l1, l2, l3, l4⟩ := ord_grow hr ha (r 5).toNat (by omega)
  have hN : (((r 5).toNat : Nat) : Int) = r 5 := by omega
  have hp := perm_nodup l1 l2 (by rw [hN]; exact l3)
  rw [hN] at hp l4
  obtain ⟨q, q1, -⟩ := ordL_all hr hp (fun i a b s c d e => l4 i a b s c d e)
  exact List.ne_nil_of_mem q1
/-! places only grow -/
def pge (n a : Int) (o : PO) : Prop := match o with
  | .inl _ => True
  | .inr b => a ≤ b ∧ b ≤ n
theorem pge_nx {bt : F1} {n a b : Int} (h : a ≤ b ∧ b ≤ n) : pge n a (.inr (nxE bt n b)) := by
  have := nxE_v (bt := bt) h.2
  exact ⟨by omega, this.2.1⟩
theorem pge_nu {bt : F1} {n a lo hi : Int} {o : PO} (h : pge n a o) : pge n a (nuO bt n lo hi o) := by
  cases o with
  | inl q => exact trivial
  | inr b =>
    by_cases z : tkE bt n b = 3
    · by_cases y : lo ≤ nuE bt n b ∧ nuE bt n b ≤ hi
      · have e : nuO bt n lo hi (.inr b) = .inr (nxE bt n b) := (pick_t z).trans (pick_t y)
        rw [e]; exact pge_nx h
      · have e : nuO bt n lo hi (.inr b) = .inl (4, b) := (pick_t z).trans (pick_f y)
        rw [e]; exact trivial
    · have e : nuO bt n lo hi (.inr b) = .inl (1, b) := pick_f z
      rw [e]; exact trivial
theorem pge_mu {bt : F1} {n a : Int} {w : List Int} {o : PO} (h : pge n a o) : pge n a (muW bt n w o) := by
  cases o with
  | inl q => exact trivial
  | inr b =>
    by_cases z : isW bt n w (.inr b)
    · rw [muW_t z]; exact pge_nx h
    · rw [muW_f z]; exact trivial
theorem pge_tk {bt : F1} {n a : Int} {w : List Int} {o : PO} (h : pge n a o) : pge n a (tkW bt n w o) := by
  cases o with
  | inl q => exact trivial
  | inr b =>
    by_cases z : isW bt n w (.inr b)
    · rw [tkW_t z]; exact pge_nx h
    · rw [tkW_f z]; exact h
theorem pge_si {bt : F1} {n a : Int} {o : PO} (h : pge n a o) : pge n a (siO bt n o) := by
  cases o with
  | inl q => exact trivial
  | inr b =>
    by_cases z : isW bt n (wS 47) (.inr b)
    · have e : siO bt n (.inr b) = .inr (nxE bt n b) := pick_t z
      rw [e]; exact pge_nx h
    · have e : siO bt n (.inr b) = muW bt n (wS 48) (.inr b) := pick_f z
      rw [e]; exact pge_mu h
theorem pge_ki {bt : F1} {n a : Int} {o : PO} (h : pge n a o) : pge n a (kiO bt n o) := by
  cases o with
  | inl q => exact trivial
  | inr b =>
    by_cases k1 : isW bt n (wS 38) (.inr b)
    · have eO : kiO bt n (.inr b) = nuO bt n 0 99 (.inr (nxE bt n b)) := pick_t k1
      rw [eO]; exact pge_nu (pge_nx h)
    · by_cases k2 : isW bt n (wS 39) (.inr b)
      · have eO : kiO bt n (.inr b) = .inr (nxE bt n b) := (pick_f k1).trans (pick_t k2)
        rw [eO]; exact pge_nx h
      · by_cases k3 : isW bt n (wS 40) (.inr b)
        · have eO : kiO bt n (.inr b) = .inr (nxE bt n b) := (pick_f k1).trans ((pick_f k2).trans (pick_t k3))
          rw [eO]; exact pge_nx h
        · have eO : kiO bt n (.inr b) = muW bt n (wS 41) (.inr b) := (pick_f k1).trans ((pick_f k2).trans (pick_f k3))
          rw [eO]; exact pge_mu h
theorem pge_na {bt r : F1} {n a : Int} {B : Prop} {o : PO} (h : pge n a o) : pge n a (naO bt n r B o) := by
  cases o with
  | inl q => exact trivial
  | inr b =>
    by_cases h1 : nmP bt n b
    · by_cases h2 : 0 ≤ fiF r (wdE bt n b) ∧ (B ↔ fiF r (wdE bt n b) < 7)
      · have eo : naO bt n r B (.inr b) = .inr b := (pick_t h1).trans (pick_t h2)
        rw [eo]; exact h
      · have eo : naO bt n r B (.inr b) = .inl (2, b) := (pick_t h1).trans (pick_f h2)
        rw [eo]; exact trivial
    · have eo : naO bt n r B (.inr b) = .inl (1, b) := pick_f h1
      rw [eo]; exact trivial
theorem pge_pa {bt r : F1} {n a : Int} {B : Prop} {o : PO} (h : pge n a o) : pge n a (paO bt n r B o) := by
  have g := pge_na (bt := bt) (r := r) (B := B) h
  unfold paO
  cases hq : naO bt n r B o with
  | inl q => exact trivial
  | inr b => rw [hq] at g; exact pge_nx g
theorem pge_nn {bt r : F1} {n a : Int} {o : PO} (h : pge n a o) : pge n a (nnO bt n r o) := by
  cases o with
  | inl q => exact trivial
  | inr b =>
    by_cases h1 : nmP bt n b
    · by_cases h2 : fiF r (wdE bt n b) < 0
      · have eo : nnO bt n r (.inr b) = .inr (nxE bt n b) := (pick_t h1).trans (pick_t h2)
        rw [eo]; exact pge_nx h
      · have eo : nnO bt n r (.inr b) = .inl (3, b) := (pick_t h1).trans (pick_f h2)
        rw [eo]; exact trivial
    · have eo : nnO bt n r (.inr b) = .inl (1, b) := pick_f h1
      rw [eo]; exact trivial
theorem pge_af {bt r : F1} {n a : Int} {o : PO} (h : pge n a o) : pge n a (afO bt n r o) := by
  have g : pge n a (afB bt n r o) := pge_na (pge_pa h)
  cases hB : afB bt n r o with
  | inl q =>
    have e : afO bt n r o = .inl q := by unfold afO; rw [hB]
    rw [e]; exact trivial
  | inr b =>
    rw [hB] at g
    have e : afO bt n r o = pick (afV bt n r o = afW bt n r o) (.inl (3, b)) (pick (AncP r (afV bt n r o) (afW bt n r o)) (.inl (7, b)) (.inr (nxE bt n b))) := by unfold afO; rw [hB]
    rw [e]
    by_cases k1 : afV bt n r o = afW bt n r o
    · rw [pick_t k1]; exact trivial
    · rw [pick_f k1]
      by_cases k2 : AncP r (afV bt n r o) (afW bt n r o)
      · rw [pick_t k2]; exact trivial
      · rw [pick_f k2]; exact pge_nx g
theorem pge_bg {bt : F1} {n num a : Int} {C : Prop} (h : a ≤ n) : pge n a (bgO bt n C num a) := by
  by_cases z : C
  · have e : bgO bt n C num a = .inr (nxE bt n a) := pick_t z
    rw [e]; exact pge_nx ⟨Int.le_refl _, h⟩
  · have e : bgO bt n C num a = .inl (num, a) := pick_f z
    rw [e]; exact trivial
theorem pge_li {bt r : F1} {n a : Int} (h : a ≤ n) : pge n a (liO bt n r a) := by
  rcases liK_c bt n a with ⟨k, -⟩ | ⟨-, ⟨k, -⟩ | ⟨-, ⟨k, -⟩ | ⟨-, ⟨k, -⟩ | ⟨-, ⟨k, -⟩ | ⟨-, ⟨k, -⟩ | ⟨-, k⟩⟩⟩⟩⟩⟩
  · rw [(li_0 k).1]; exact pge_nu (pge_mu (pge_nu (pge_mu (pge_nu (pge_mu (pge_bg h))))))
  · rw [(li_1 k).1]; exact pge_nu (pge_mu (pge_nu (pge_mu (pge_nu (pge_mu (pge_ki (pge_nn (pge_bg h))))))))
  · rw [(li_2 k).1]; exact pge_nu (pge_mu (pge_nn (pge_bg h)))
  · rw [(li_3 k).1]; exact pge_af (pge_bg h)
  · rw [(li_4 k).1]; exact pge_tk (pge_si (pge_si (pge_nu (pge_mu (pge_nu (pge_pa (pge_pa (pge_bg h))))))))
  · rw [(li_5 k).1]; exact pge_si (pge_nu (pge_pa (pge_bg h)))
  · rw [li_6 k]; exact trivial
/-- LINE after LINE -/
noncomputable def rsF (bt : F1) (n : Int) : Nat → F1 → PO → PO × F1
  | 0, r, o => (o, r)
  | f + 1, r, o => match o with
    | .inl q => (.inl q, r)
    | .inr b => pick (tkE bt n b = 59) (rsF bt n f (liR bt n r (nxE bt n b)) (liO bt n r (nxE bt n b))) (.inr b, r)
noncomputable def rdF (bt : F1) (n : Int) : PO × F1 := rsF bt n 902 (liR bt n (fun _ => 0) (skE bt n 0)) (liO bt n (fun _ => 0) (skE bt n 0))
/-- what a text tells: a FAULT with its place, or the numbers -/
noncomputable def finF (bt : F1) (n : Int) : (Int × Int) ⊕ F1 := match rdF bt n with
  | (.inl q, _) => .inl q
  | (.inr b, r) => pick (tkE bt n b = 0) (pick (r 0 = 0 ∨ r 4 = 0 ∨ r 5 = 0) (.inl (6, b)) (.inr r)) (.inl (1, b))
theorem WFp_z {r : F1} (h : ∀ j, r j = 0) : WFp r := by
  refine ⟨?_, fun p _ _ => ?_, fun s _ _ => ?_, fun k k1 k2 => ?_, fun k k1 k2 => ?_, fun s s1 s2 => ?_, ⟨fun s s1 s2 => ?_, fun s _ _ => h _⟩, fun j j1 j2 => ?_, fun i j w _ _ _ _ g => ?_, fun j k _ _ k1 k2 => ?_, fun p _ _ => ⟨h _, h _⟩, ⟨fun _ => 0, fun s _ _ u u1 u2 g => ?_⟩⟩
  · unfold wHd; simp only [h]; decide
  · simp only [h]; omega
  · simp only [h]; omega
  · rw [h] at k2; omega
  · rw [h] at k2; omega
  · rw [h] at s2; omega
  · rw [h] at s2; omega
  · unfold nIx; simp only [h]; omega
  · have := g.1; rw [h] at this; omega
  · rw [h] at k2; omega
  · rw [h] at g; exact absurd g (has_0 ⟨u1, u2⟩)
theorem WFp_0 : WFp (fun _ => 0) := WFp_z (fun _ => rfl)
theorem rsF_w {bt : F1} {n : Int} : ∀ (f : Nat) (r : F1) (o : PO), (¬ isE o → WFp r) → ¬ isE (rsF bt n f r o).1 → WFp (rsF bt n f r o).2
  | 0, r, o, h, h2 => h h2
  | f + 1, r, o, h, h2 => by
    cases o with
    | inl q => exact absurd trivial h2
    | inr b =>
      by_cases z : tkE bt n b = 59
      · have e : rsF bt n (f + 1) r (.inr b) = rsF bt n f (liR bt n r (nxE bt n b)) (liO bt n r (nxE bt n b)) := pick_t z
        rw [e] at h2 ⊢
        exact rsF_w f _ _ (fun y => liR_w (h id) y) h2
      · have e : rsF bt n (f + 1) r (.inr b) = (.inr b, r) := pick_f z
        rw [e]; exact h id
theorem finF_w {bt : F1} {n : Int} {r : F1} (h : finF bt n = .inr r) : WFp r ∧ WFr r := by
  have key : ∃ b, rdF bt n = (.inr b, r) ∧ ¬ (r 0 = 0 ∨ r 4 = 0 ∨ r 5 = 0) := by
    unfold finF at h
    cases hq : rdF bt n with
    | mk o r1 =>
      rw [hq] at h
      cases o with
      | inl q => cases h
      | inr b =>
        have h : pick (tkE bt n b = 0) (pick (r1 0 = 0 ∨ r1 4 = 0 ∨ r1 5 = 0) (.inl (6, b)) (.inr r1)) (.inl (1, b)) = (.inr r : (Int × Int) ⊕ F1) := h
        by_cases z : tkE bt n b = 0
        · rw [pick_t z] at h
          by_cases y : r1 0 = 0 ∨ r1 4 = 0 ∨ r1 5 = 0
          · rw [pick_t y] at h; cases h
          · rw [pick_f y] at h; cases h; exact ⟨b, rfl, y⟩
        · rw [pick_f z] at h; cases h
  obtain ⟨b, e, y⟩ := key
  have w : WFp r := by
    have g := rsF_w (bt := bt) (n := n) 902 (liR bt n (fun _ => 0) (skE bt n 0)) (liO bt n (fun _ => 0) (skE bt n 0)) (fun z => liR_w WFp_0 z)
    have e2 : rsF bt n 902 (liR bt n (fun _ => 0) (skE bt n 0)) (liO bt n (fun _ => 0) (skE bt n 0)) = (.inr b, r) := e
    rw [e2] at g
    exact g id
  exact ⟨w, w.r (fun z => y (Or.inl z)) (fun z => y (Or.inr (Or.inl z))) (fun z => y (Or.inr (Or.inr z)))⟩
