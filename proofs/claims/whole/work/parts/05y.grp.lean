/-! sets of parts, of those seen: good ones, how they split -/
theorem Spl_0 {G : Int → Prop} : ∀ k : Nat, Spl G k 0
  | 0 => rfl
  | _ + 1 => Or.inl rfl
theorem Spl_cn {G : Int → Prop} : ∀ (m : Nat) (s : Int), 0 ≤ s ∧ s ≤ 127 → Spl G m s → Spl G (cn s 7) s
  | 0, s, hs, h => by
    have h : s = 0 := h
    subst h; exact Spl_0 _
  | m + 1, s, hs, h => by
    rcases h with h | ⟨o, o1, o2, o3, o4, o5, o6⟩
    · subst h; exact Spl_0 _
    · have hs0 : 0 < s := by have := (sub_le hs o3); omega
      have nx := sub_next hs ⟨o1, o2⟩ o3
      have ih := Spl_cn m (andN s o) ⟨nx.2.2.2.2.1, by omega⟩ o6
      obtain ⟨b, b1, b2, b3, b4⟩ := and_ne.mp o4
      have b5 : hasI s b := sub_has o3 ⟨b1, b2⟩ b3
      have b6 : b < 7 := Classical.byContradiction (fun z => has_lt (n := 7) (by omega) ⟨hs.1, by omega⟩ ⟨by omega, b2⟩ b5)
      have hlt := cn_lt (S := andN s o) (T := s) (fun k k1 k2 z => by
        unfold andN at z
        exact ((has_andn ⟨k1, k2⟩).mp z).1) b1 (fun z => by
        unfold andN at z
        exact ((has_andn ⟨b1, b2⟩).mp z).2 b3) b5 7 (by decide) (by omega)
      obtain ⟨j, hj⟩ : ∃ j, cn s 7 = j + 1 := ⟨cn s 7 - 1, by omega⟩
      rw [hj]
      exact Or.inr ⟨o, o1, o2, o3, o4, o5, ih.le (by omega)⟩
theorem Spl_7 {G : Int → Prop} {m : Nat} {s : Int} (hs : 0 ≤ s ∧ s ≤ 127) (h : Spl G m s) : Spl G 7 s := (Spl_cn m s hs h).le (cn_le s 7)
/-- a set falls apart: by what goes with its lowest -/
theorem Spl_low {G : Int → Prop} {m : Nat} {s : Int} (hs : 0 < s ∧ s ≤ 127) : Spl G (m + 1) s ↔ ∃ x, 0 ≤ x ∧ sub x (ixor s (lowI s)) ∧ G (ior (lowI s) x) ∧ Spl G m (ixor (ixor s (lowI s)) x) := by
  have lo := low_ok hs
  constructor
  · rintro (h | ⟨o, o1, o2, o3, o4, o5, o6⟩)
    · omega
    · have b := blk_of ⟨by omega, hs.2⟩ ⟨by omega, o2⟩ o3 o4
      have k := blk_ok hs ⟨b.2.2.1, b.2.2.2.1⟩ b.1
      refine ⟨ixor o (lowI s), b.2.2.1, b.1, by rw [b.2.1]; exact o5, ?_⟩
      rw [k.2.2.2.2, b.2.1]; exact o6
  · rintro ⟨x, x1, x2, x3, x4⟩
    have xl := sub_le ⟨by omega, by omega⟩ x2
    have k := blk_ok hs ⟨x1, by omega⟩ x2
    refine Or.inr ⟨ior (lowI s) x, k.1, by omega, k.2.2.1, k.2.2.2.1, x3, ?_⟩
    rw [← k.2.2.2.2]; exact x4
def GW3 (N P : Nat) (r : F1) (rd g : Int) (sc : F1) (cut : Int) (I : MI) : Prop := PR I P r ∧ NtV I N r rd g sc cut ∧ KnG I (N + 1) (MayP r rd g sc cut)
def GW7 (P : Nat) (r : F1) (I : MI) : Prop := PR I P r ∧ SrV I r ∧ KnG I 136 (SeenP r)
theorem GW3.mv {N P : Nat} {r : F1} {rd g : Int} {sc : F1} {cut : Int} {I I' : MI} (hN : isN N) (hP : isP P) (hr : WFr r) (h : GW3 N P r rd g sc cut I) (e : Eqo [N + 1] I I') (k : KnG I' (N + 1) (MayP r rd g sc cut)) : GW3 N P r rd g sc cut I' := by
  have e0 := hr.1
  exact ⟨h.1.nt hN hP (by omega) (fun c hc => e c (by simp; omega)), h.2.1.c (by omega) (fun c hc => e c (by simp; omega)), k⟩
theorem GW7.mv {P : Nat} {r : F1} {I I' : MI} (hP : isP P) (hr : WFr r) (h : GW7 P r I) (e : Eqo [136] I I') (k : KnG I' 136 (SeenP r)) : GW7 P r I' := by
  have e0 := hr.1
  have hp : P = 3 ∨ P = 39 := hP
  exact ⟨h.1.c (by omega) (fun c a b => e c (by simp; omega)), fun i a b => by rw [e 137 (by decide)]; exact h.2.1 i a b, k⟩
theorem KnG.pt {I : MI} {c : Nat} {G : Int → Prop} {s v : Int} (h : KnG I c G) (hv : (v = 1 ∧ G s) ∨ (v = 2 ∧ ¬ G s)) : KnG (up I c s v) c G := fun t a b => by
  rw [upd9]
  by_cases e : t = s
  · subst e; rw [if_pos rfl]; exact Or.inr hv
  · rw [if_neg e]; exact h t a b
set_option maxHeartbeats 4000000 in
theorem c_X3_good3 {E : ET} {I : MI} {L : ML} {R : MR} {Q : Option AV → MI → ML → MR → Prop} {N P : Nat} {r sc : F1} {rd g cut : Int} {set : Int} (hT : Topo R) (hN : isN N) (hP : isP P) (hNP : R N 1 = some P) (hr : WFr r) (hsc : Perm (r 5) sc) (hg : 0 ≤ g ∧ g ≤ 99) (hW : GW3 N P r rd g sc cut I) (hset : -2147483648 ≤ set ∧ set ≤ 2147483647) (h : ∀ I', Eqo [N + 1] I I' → GW3 N P r rd g sc cut I' → Q (some (vi (bI ((0 ≤ set ∧ set < 128) ∧ MayP r rd g sc cut set)))) I' L R) : CT E M_X3_good 161 yX3_good [(vr (N)), (vi (set))] I L R Q := by
  refine CT_of rfl rfl (fun h => by cases h) (Nat.le_of_ble_eq_true rfl) (fun X => ?_)
  show V X _ z0 0 [some (vr (N)), some (vi (set))] [] I L R _
  by_cases h0 : 0 ≤ set ∧ set < 128
  · rcases hW.2.2 set h0.1 h0.2 with e | ⟨e, hg9⟩ | ⟨e, hg9⟩
    · skip
      refine s_iload_n 1 dX3_good_0 rfl rfl ?_
      refine s_if_lt 11 4 dX3_good_1 rfl rfl (by first | omega | exact bI_r _ | exact iI_r _) (fun h_1 => by exfalso; omega) (fun h_1 => ?_)
      refine s_iload_n 5 dX3_good_4 rfl rfl ?_
      refine s_sipush 8 dX3_good_5 rfl (by decide) ?_
      refine s_icmp_lt 13 11 dX3_good_8 rfl rfl (by first | omega | exact bI_r _ | exact iI_r _) (by first | omega | exact bI_r _ | exact iI_r _) (fun h_8 => ?_) (fun h_8 => by exfalso; omega)
      refine s_aload_n 14 dX3_good_13 rfl rfl ?_
      refine s_getR 17 dX3_good_14 rfl fl_X3_9_3 (fun _ _ _ _ => rfl) (T_X4_known hT hN) (isN_sh hN) (isN_lt hN) ?_
      refine s_iload_n 18 dX3_good_17 rfl rfl ?_
      refine s_iald 19 dX3_good_18 rfl (shN_known hN) (ltN_known hN) (by omega) (by omega) (fun r_18 => ?_)
      rw [e]
      refine s_if_ne 41 22 dX3_good_19 rfl rfl (by first | omega | exact bI_r _ | exact iI_r _) (fun h_19 => by exfalso; omega) (fun h_19 => ?_)
      refine s_aload_n 23 dX3_good_22 rfl rfl ?_
      refine s_getR 26 dX3_good_23 rfl fl_X3_9_3 (fun _ _ _ _ => rfl) (T_X4_known hT hN) (isN_sh hN) (isN_lt hN) ?_
      refine s_iload_n 27 dX3_good_26 rfl rfl ?_
      refine s_aload_n 28 dX3_good_27 rfl rfl ?_
      refine s_iload_n 29 dX3_good_28 rfl rfl ?_
      refine s_callA0 (M' := M_X4_fits) (as := [_]) 32 dX3_good_29 rfl cw_X3_21_3 rfl rfl (isN_sh hN) rfl (by decide) (isN_lt hN) (Nat.le_of_ble_eq_true rfl) (Nat.le_of_ble_eq_true rfl) (Nat.le_of_ble_eq_true rfl) ⟨rfl, rfl, rfl⟩ ?_
      refine c_X4_fits hT hN hP hNP hr hW.1 hW.2.1 hsc hg ?_
      refine s_ifb_eq 39 35 dX3_good_32 rfl rfl (fun h_32 => ?_) (fun h_32 => ?_)
      · skip
        refine s_iconst 40 dX3_good_39 rfl ?_
        refine s_iast 41 dX3_good_40 rfl (shN_known hN) (ltN_known hN) (by omega) (by omega) (by first | omega | exact bI_r _ | exact iI_r _) ?_
        refine s_aload_n 42 dX3_good_41 rfl rfl ?_
        refine s_getR 45 dX3_good_42 rfl fl_X3_9_3 (fun _ _ _ _ => rfl) (T_X4_known hT hN) (isN_sh hN) (isN_lt hN) ?_
        refine s_iload_n 46 dX3_good_45 rfl rfl ?_
        refine s_iald 47 dX3_good_46 rfl (shN_known hN) (ltN_known hN) (by omega) (by omega) (fun r_46 => ?_)
        rw [ups]
        refine s_iconst 48 dX3_good_47 rfl ?_
        refine s_icmp_ne 55 51 dX3_good_48 rfl rfl (by first | omega | exact bI_r _ | exact iI_r _) (by first | omega | exact bI_r _ | exact iI_r _) (fun h_48 => ?_) (fun h_48 => ?_)
        · skip
          refine s_iconst 56 dX3_good_55 rfl ?_
          refine s_zret dX3_good_56 rfl (by first | omega | exact bI_b _) rfl ?_
          first | exact ret_t ⟨h0, h_32⟩ (h _ (Eqo.rf.st (by simp)) (hW.mv hN hP hr (Eqo.rf.st (by simp)) (hW.2.2.pt (Or.inl ⟨rfl, h_32⟩)))) | exact ret_f (fun z => h_32 z.2) (h _ (Eqo.rf.st (by simp)) (hW.mv hN hP hr (Eqo.rf.st (by simp)) (hW.2.2.pt (Or.inr ⟨rfl, h_32⟩)))) | omega
        refine s_iconst 52 dX3_good_51 rfl ?_
        refine s_goto 56 dX3_good_52 rfl ?_
        refine s_zret dX3_good_56 rfl (by first | omega | exact bI_b _) rfl ?_
        first | exact ret_t ⟨h0, h_32⟩ (h _ (Eqo.rf.st (by simp)) (hW.mv hN hP hr (Eqo.rf.st (by simp)) (hW.2.2.pt (Or.inl ⟨rfl, h_32⟩)))) | exact ret_f (fun z => h_32 z.2) (h _ (Eqo.rf.st (by simp)) (hW.mv hN hP hr (Eqo.rf.st (by simp)) (hW.2.2.pt (Or.inr ⟨rfl, h_32⟩)))) | omega
      refine s_iconst 36 dX3_good_35 rfl ?_
      refine s_goto 40 dX3_good_36 rfl ?_
      refine s_iast 41 dX3_good_40 rfl (shN_known hN) (ltN_known hN) (by omega) (by omega) (by first | omega | exact bI_r _ | exact iI_r _) ?_
      refine s_aload_n 42 dX3_good_41 rfl rfl ?_
      refine s_getR 45 dX3_good_42 rfl fl_X3_9_3 (fun _ _ _ _ => rfl) (T_X4_known hT hN) (isN_sh hN) (isN_lt hN) ?_
      refine s_iload_n 46 dX3_good_45 rfl rfl ?_
      refine s_iald 47 dX3_good_46 rfl (shN_known hN) (ltN_known hN) (by omega) (by omega) (fun r_46 => ?_)
      rw [ups]
      refine s_iconst 48 dX3_good_47 rfl ?_
      refine s_icmp_ne 55 51 dX3_good_48 rfl rfl (by first | omega | exact bI_r _ | exact iI_r _) (by first | omega | exact bI_r _ | exact iI_r _) (fun h_48 => ?_) (fun h_48 => ?_)
      · skip
        refine s_iconst 56 dX3_good_55 rfl ?_
        refine s_zret dX3_good_56 rfl (by first | omega | exact bI_b _) rfl ?_
        first | exact ret_t ⟨h0, h_32⟩ (h _ (Eqo.rf.st (by simp)) (hW.mv hN hP hr (Eqo.rf.st (by simp)) (hW.2.2.pt (Or.inl ⟨rfl, h_32⟩)))) | exact ret_f (fun z => h_32 z.2) (h _ (Eqo.rf.st (by simp)) (hW.mv hN hP hr (Eqo.rf.st (by simp)) (hW.2.2.pt (Or.inr ⟨rfl, h_32⟩)))) | omega
      refine s_iconst 52 dX3_good_51 rfl ?_
      refine s_goto 56 dX3_good_52 rfl ?_
      refine s_zret dX3_good_56 rfl (by first | omega | exact bI_b _) rfl ?_
      first | exact ret_t ⟨h0, h_32⟩ (h _ (Eqo.rf.st (by simp)) (hW.mv hN hP hr (Eqo.rf.st (by simp)) (hW.2.2.pt (Or.inl ⟨rfl, h_32⟩)))) | exact ret_f (fun z => h_32 z.2) (h _ (Eqo.rf.st (by simp)) (hW.mv hN hP hr (Eqo.rf.st (by simp)) (hW.2.2.pt (Or.inr ⟨rfl, h_32⟩)))) | omega
    · skip
      refine s_iload_n 1 dX3_good_0 rfl rfl ?_
      refine s_if_lt 11 4 dX3_good_1 rfl rfl (by first | omega | exact bI_r _ | exact iI_r _) (fun h_1 => by exfalso; omega) (fun h_1 => ?_)
      refine s_iload_n 5 dX3_good_4 rfl rfl ?_
      refine s_sipush 8 dX3_good_5 rfl (by decide) ?_
      refine s_icmp_lt 13 11 dX3_good_8 rfl rfl (by first | omega | exact bI_r _ | exact iI_r _) (by first | omega | exact bI_r _ | exact iI_r _) (fun h_8 => ?_) (fun h_8 => by exfalso; omega)
      refine s_aload_n 14 dX3_good_13 rfl rfl ?_
      refine s_getR 17 dX3_good_14 rfl fl_X3_9_3 (fun _ _ _ _ => rfl) (T_X4_known hT hN) (isN_sh hN) (isN_lt hN) ?_
      refine s_iload_n 18 dX3_good_17 rfl rfl ?_
      refine s_iald 19 dX3_good_18 rfl (shN_known hN) (ltN_known hN) (by omega) (by omega) (fun r_18 => ?_)
      rw [e]
      refine s_if_ne 41 22 dX3_good_19 rfl rfl (by first | omega | exact bI_r _ | exact iI_r _) (fun h_19 => ?_) (fun h_19 => by exfalso; omega)
      refine s_aload_n 42 dX3_good_41 rfl rfl ?_
      refine s_getR 45 dX3_good_42 rfl fl_X3_9_3 (fun _ _ _ _ => rfl) (T_X4_known hT hN) (isN_sh hN) (isN_lt hN) ?_
      refine s_iload_n 46 dX3_good_45 rfl rfl ?_
      refine s_iald 47 dX3_good_46 rfl (shN_known hN) (ltN_known hN) (by omega) (by omega) (fun r_46 => ?_)
      rw [e]
      refine s_iconst 48 dX3_good_47 rfl ?_
      refine s_icmp_ne 55 51 dX3_good_48 rfl rfl (by first | omega | exact bI_r _ | exact iI_r _) (by first | omega | exact bI_r _ | exact iI_r _) (fun h_48 => by exfalso; omega) (fun h_48 => ?_)
      refine s_iconst 52 dX3_good_51 rfl ?_
      refine s_goto 56 dX3_good_52 rfl ?_
      refine s_zret dX3_good_56 rfl (by first | omega | exact bI_b _) rfl ?_
      exact ret_t ⟨h0, hg9⟩ (h I Eqo.rf hW)
    · skip
      refine s_iload_n 1 dX3_good_0 rfl rfl ?_
      refine s_if_lt 11 4 dX3_good_1 rfl rfl (by first | omega | exact bI_r _ | exact iI_r _) (fun h_1 => by exfalso; omega) (fun h_1 => ?_)
      refine s_iload_n 5 dX3_good_4 rfl rfl ?_
      refine s_sipush 8 dX3_good_5 rfl (by decide) ?_
      refine s_icmp_lt 13 11 dX3_good_8 rfl rfl (by first | omega | exact bI_r _ | exact iI_r _) (by first | omega | exact bI_r _ | exact iI_r _) (fun h_8 => ?_) (fun h_8 => by exfalso; omega)
      refine s_aload_n 14 dX3_good_13 rfl rfl ?_
      refine s_getR 17 dX3_good_14 rfl fl_X3_9_3 (fun _ _ _ _ => rfl) (T_X4_known hT hN) (isN_sh hN) (isN_lt hN) ?_
      refine s_iload_n 18 dX3_good_17 rfl rfl ?_
      refine s_iald 19 dX3_good_18 rfl (shN_known hN) (ltN_known hN) (by omega) (by omega) (fun r_18 => ?_)
      rw [e]
      refine s_if_ne 41 22 dX3_good_19 rfl rfl (by first | omega | exact bI_r _ | exact iI_r _) (fun h_19 => ?_) (fun h_19 => by exfalso; omega)
      refine s_aload_n 42 dX3_good_41 rfl rfl ?_
      refine s_getR 45 dX3_good_42 rfl fl_X3_9_3 (fun _ _ _ _ => rfl) (T_X4_known hT hN) (isN_sh hN) (isN_lt hN) ?_
      refine s_iload_n 46 dX3_good_45 rfl rfl ?_
      refine s_iald 47 dX3_good_46 rfl (shN_known hN) (ltN_known hN) (by omega) (by omega) (fun r_46 => ?_)
      rw [e]
      refine s_iconst 48 dX3_good_47 rfl ?_
      refine s_icmp_ne 55 51 dX3_good_48 rfl rfl (by first | omega | exact bI_r _ | exact iI_r _) (by first | omega | exact bI_r _ | exact iI_r _) (fun h_48 => ?_) (fun h_48 => by exfalso; omega)
      refine s_iconst 56 dX3_good_55 rfl ?_
      refine s_zret dX3_good_56 rfl (by first | omega | exact bI_b _) rfl ?_
      exact ret_f (fun z => hg9 z.2) (h I Eqo.rf hW)
  · skip
    refine s_iload_n 1 dX3_good_0 rfl rfl ?_
    refine s_if_lt 11 4 dX3_good_1 rfl rfl (by first | omega | exact bI_r _ | exact iI_r _) (fun h_1 => ?_) (fun h_1 => ?_)
    · skip
      refine s_iconst 12 dX3_good_11 rfl ?_
      refine s_zret dX3_good_12 rfl (by first | omega | exact bI_b _) rfl ?_
      exact ret_f (fun z => h0 z.1) (h I Eqo.rf hW)
    refine s_iload_n 5 dX3_good_4 rfl rfl ?_
    refine s_sipush 8 dX3_good_5 rfl (by decide) ?_
    refine s_icmp_lt 13 11 dX3_good_8 rfl rfl (by first | omega | exact bI_r _ | exact iI_r _) (by first | omega | exact bI_r _ | exact iI_r _) (fun h_8 => ?_) (fun h_8 => ?_)
    · skip
      exact absurd ⟨by omega, by omega⟩ h0
    refine s_iconst 12 dX3_good_11 rfl ?_
    refine s_zret dX3_good_12 rfl (by first | omega | exact bI_b _) rfl ?_
    exact ret_f (fun z => h0 z.1) (h I Eqo.rf hW)
set_option maxHeartbeats 4000000 in
theorem c_X3_splits3 (d : Nat) : ∀ {E : ET} {I : MI} {L : ML} {R : MR} {Q : Option AV → MI → ML → MR → Prop} {N P : Nat} {r sc : F1} {rd g cut : Int} {rest m : Int} (hT : Topo R) (hN : isN N) (hP : isP P) (hNP : R N 1 = some P) (hr : WFr r) (hsc : Perm (r 5) sc) (hg : 0 ≤ g ∧ g ≤ 99) (hW : GW3 N P r rd g sc cut I) (hr0 : 0 ≤ rest ∧ rest ≤ 127) (hm : 0 ≤ m ∧ m ≤ 7) (hd : m < (d : Int)) (h : ∀ I', Eqo [N + 1] I I' → GW3 N P r rd g sc cut I' → Q (some (vi (bI (Spl (MayP r rd g sc cut) m.toNat rest)))) I' L R), CT E (M_X3_splits d) 161 yX3_splits [(vr (N)), (vi (rest)), (vi (m))] I L R Q := by
  induction d with
  | zero => intros; exfalso; omega
  | succ d ih =>
  intro E I L R Q N P r sc rd g cut rest m hT hN hP hNP hr hsc hg hW hr0 hm hd h
  refine CT_of rfl rfl (fun h => by cases h) (Nat.le_of_ble_eq_true rfl) (fun X => ?_)
  show V X _ z0 0 [some (vr (N)), some (vi (rest)), some (vi (m)), none, none, none] [] I L R _
  by_cases hz : rest = 0
  · subst hz
    refine s_iload_n 1 dX3_splits_0 rfl rfl ?_
    refine s_if_ne 6 4 dX3_splits_1 rfl rfl (by first | omega | exact bI_r _ | exact iI_r _) (fun h_1 => by exfalso; omega) (fun h_1 => ?_)
    refine s_iconst 5 dX3_splits_4 rfl ?_
    refine s_zret dX3_splits_5 rfl (by first | omega | exact bI_b _) rfl ?_
    exact ret_t (Spl_0 _) (h I Eqo.rf hW)
  · have hs : 0 < rest ∧ rest ≤ 127 := by omega
    have lo := low_ok hs
    by_cases hm0 : m = 0
    · subst hm0
      refine s_iload_n 1 dX3_splits_0 rfl rfl ?_
      refine s_if_ne 6 4 dX3_splits_1 rfl rfl (by first | omega | exact bI_r _ | exact iI_r _) (fun h_1 => ?_) (fun h_1 => by exfalso; omega)
      refine s_iload_n 7 dX3_splits_6 rfl rfl ?_
      refine s_iconst 8 dX3_splits_7 rfl ?_
      refine s_icmp_gt 30 11 dX3_splits_8 rfl rfl (by first | omega | exact bI_r _ | exact iI_r _) (by first | omega | exact bI_r _ | exact iI_r _) (fun h_8 => by exfalso; omega) (fun h_8 => ?_)
      refine s_iload_n 12 dX3_splits_11 rfl rfl ?_
      refine s_iconst 13 dX3_splits_12 rfl ?_
      refine s_icmp_ne 28 16 dX3_splits_13 rfl rfl (by first | omega | exact bI_r _ | exact iI_r _) (by first | omega | exact bI_r _ | exact iI_r _) (fun h_13 => ?_) (fun h_13 => by exfalso; omega)
      refine s_iconst 29 dX3_splits_28 rfl ?_
      refine s_zret dX3_splits_29 rfl (by first | omega | exact bI_b _) rfl ?_
      exact ret_f (fun z => hz z) (h I Eqo.rf hW)
    · by_cases hm1 : m = 1
      · subst hm1
        have e1 : ((0 ≤ rest ∧ rest < 128) ∧ MayP r rd g sc cut rest) ↔ Spl (MayP r rd g sc cut) (1 : Int).toNat rest := by
          constructor
          · intro z
            refine Or.inr ⟨rest, hs.1, hs.2, chk_self ⟨by omega, hs.2⟩, ?_, z.2, ?_⟩
            · have y := lo.2.2.1
              unfold sub at y
              rw [show iand rest (lowI rest) = iand (lowI rest) rest from set_ext (iand_r _ _) (iand_r _ _) (fun k k1 k2 => by rw [has_and ⟨k1, k2⟩, has_and ⟨k1, k2⟩]; exact And.comm), y]
              omega
            · show andN rest rest = 0
              unfold andN
              exact (andn_0 (by omega)).mpr (fun k k1 k2 k3 => k3)
          · rintro (z | ⟨o, o1, o2, o3, o4, o5, o6⟩)
            · omega
            · have o6 : andN rest o = 0 := o6
              unfold andN at o6
              have : o = rest := set_ext (by omega) (by omega) (fun k k1 k2 => ⟨fun y => sub_has o3 ⟨k1, k2⟩ y, fun y => (andn_0 (by omega)).mp o6 k k1 k2 y⟩)
              subst this
              exact ⟨⟨by omega, by omega⟩, o5⟩
        rw [← bI_c e1] at h
        refine s_iload_n 1 dX3_splits_0 rfl rfl ?_
        refine s_if_ne 6 4 dX3_splits_1 rfl rfl (by first | omega | exact bI_r _ | exact iI_r _) (fun h_1 => ?_) (fun h_1 => by exfalso; omega)
        refine s_iload_n 7 dX3_splits_6 rfl rfl ?_
        refine s_iconst 8 dX3_splits_7 rfl ?_
        refine s_icmp_gt 30 11 dX3_splits_8 rfl rfl (by first | omega | exact bI_r _ | exact iI_r _) (by first | omega | exact bI_r _ | exact iI_r _) (fun h_8 => by exfalso; omega) (fun h_8 => ?_)
        refine s_iload_n 12 dX3_splits_11 rfl rfl ?_
        refine s_iconst 13 dX3_splits_12 rfl ?_
        refine s_icmp_ne 28 16 dX3_splits_13 rfl rfl (by first | omega | exact bI_r _ | exact iI_r _) (by first | omega | exact bI_r _ | exact iI_r _) (fun h_13 => by exfalso; omega) (fun h_13 => ?_)
        refine s_aload_n 17 dX3_splits_16 rfl rfl ?_
        refine s_iload_n 18 dX3_splits_17 rfl rfl ?_
        refine s_callU0 (M' := M_X3_good) (as := [_]) 21 dX3_splits_18 rfl cw_X3_29_3 rfl rfl (isN_sh hN) rfl (by decide) (isN_lt hN) (by first | exact Nat.le_of_ble_eq_true rfl | (simp only [mrk]; omega)) (Nat.le_of_ble_eq_true rfl) (Nat.le_of_ble_eq_true rfl) ⟨rfl, rfl, rfl⟩ ?_
        refine c_X3_good3 hT hN hP hNP hr hsc hg hW (by omega) (fun I2 g1 g2 => ?_)
        refine s_ifb_eq 28 24 dX3_splits_21 rfl rfl (fun h_21 => ?_) (fun h_21 => ?_)
        · skip
          refine s_iconst 29 dX3_splits_28 rfl ?_
          refine s_zret dX3_splits_29 rfl (by first | omega | exact bI_b _) rfl ?_
          first | exact ret_t h_21 (h I2 g1 g2) | exact ret_f h_21 (h I2 g1 g2)
        refine s_iconst 25 dX3_splits_24 rfl ?_
        refine s_goto 29 dX3_splits_25 rfl ?_
        refine s_zret dX3_splits_29 rfl (by first | omega | exact bI_b _) rfl ?_
        first | exact ret_t h_21 (h I2 g1 g2) | exact ret_f h_21 (h I2 g1 g2)
      · have hm2 : 0 ≤ m - 1 ∧ m - 1 ≤ 7 := by omega
        have hd2 : m - 1 < (d : Int) := by omega
        have em : m.toNat = (m - 1).toNat + 1 := by omega
        rw [em] at h
        have key := Spl_low (G := MayP r rd g sc cut) (m := (m - 1).toNat) hs
        have loop : ∀ (f : Nat) (x : Int) (I1 : MI), x < (f : Int) → 0 ≤ x → sub x (ixor rest (lowI rest)) → Eqo [N + 1] I I1 → GW3 N P r rd g sc cut I1 → (∀ y, 0 ≤ y → sub y (ixor rest (lowI rest)) → x < y → ¬ (MayP r rd g sc cut (ior (lowI rest) y) ∧ Spl (MayP r rd g sc cut) (m - 1).toNat (ixor (ixor rest (lowI rest)) y))) → V X (M_X3_splits (d + 1)) z0 44 [some (vr (N)), some (vi (rest)), some (vi (m)), some (vi (lowI rest)), some (vi (ixor rest (lowI rest))), some (vi (x))] [] (I1) L R (RT X (M_X3_splits (d + 1)) Q) := by
          intro f
          induction f with
          | zero => intro x I1 h1 h2; omega
          | succ f ih2 =>
            intro x I1 h1 h2 h3 h4 hW1 h5
            have xl := sub_le ⟨by omega, by omega⟩ h3
            have bk := blk_ok hs ⟨h2, by omega⟩ h3
            have xs : 0 ≤ ixor (ixor rest (lowI rest)) x ∧ ixor (ixor rest (lowI rest)) x ≤ 127 := by
              rw [bk.2.2.2.2]
              have := sub_next ⟨by omega, hs.2⟩ ⟨bk.1, by omega⟩ bk.2.2.1
              omega
            by_cases hx : x = 0
            · subst hx
              have e0 : ior (lowI rest) 0 = lowI rest := ior_0 (by omega)
              have e2 : ixor (ixor rest (lowI rest)) 0 = ixor rest (lowI rest) := set_ext (iI_r _) (by omega) (fun k k1 k2 => by
                rw [has_xor ⟨k1, k2⟩]
                have := has_0 ⟨k1, k2⟩
                exact ⟨fun z => Classical.byContradiction (fun y => z ⟨fun w => absurd w y, fun w => absurd w this⟩), fun z w => this (w.mp z)⟩)
              rw [e0] at bk
              rw [e2] at xs
              have kf : Spl (MayP r rd g sc cut) ((m - 1).toNat + 1) rest ↔ MayP r rd g sc cut (lowI rest) ∧ Spl (MayP r rd g sc cut) (m - 1).toNat (ixor rest (lowI rest)) := by
                rw [key]
                constructor
                · rintro ⟨y, y1, y2, y3, y4⟩
                  by_cases ey : y = 0
                  · subst ey; rw [e0] at y3; rw [e2] at y4; exact ⟨y3, y4⟩
                  · exact absurd ⟨y3, y4⟩ (h5 y y1 y2 (by omega))
                · rintro ⟨y3, y4⟩
                  exact ⟨0, by omega, h3, by rw [e0]; exact y3, by rw [e2]; exact y4⟩
              refine s_iload 46 dX3_splits_44 rfl rfl ?_
              refine s_if_le 89 49 dX3_splits_46 rfl rfl (by first | omega | exact bI_r _ | exact iI_r _) (fun h_46 => ?_) (fun h_46 => by exfalso; omega)
              refine s_aload_n 90 dX3_splits_89 rfl rfl ?_
              refine s_iload_n 91 dX3_splits_90 rfl rfl ?_
              refine s_callU0 (M' := M_X3_good) (as := [_]) 94 dX3_splits_91 rfl cw_X3_29_3 rfl rfl (isN_sh hN) rfl (by decide) (isN_lt hN) (by first | exact Nat.le_of_ble_eq_true rfl | (simp only [mrk]; omega)) (Nat.le_of_ble_eq_true rfl) (Nat.le_of_ble_eq_true rfl) ⟨rfl, rfl, rfl⟩ ?_
              refine c_X3_good3 hT hN hP hNP hr hsc hg hW1 (by omega) (fun I2 g1 g2 => ?_)
              refine s_ifb_eq 113 97 dX3_splits_94 rfl rfl (fun h_94 => ?_) (fun h_94 => ?_)
              · skip
                refine s_iconst 114 dX3_splits_113 rfl ?_
                refine s_zret dX3_splits_114 rfl (by first | omega | exact bI_b _) rfl ?_
                first | exact ret_t (kf.mpr ⟨h_94.2, h_106⟩) (h I3 ((h4.tr g1).tr g3) g4) | exact ret_f (fun z => h_106 (kf.mp z).2) (h I3 ((h4.tr g1).tr g3) g4) | exact ret_f (fun z => h_94 ⟨by omega, (kf.mp z).1⟩) (h I2 (h4.tr g1) g2)
              refine s_aload_n 98 dX3_splits_97 rfl rfl ?_
              refine s_iload 100 dX3_splits_98 rfl rfl ?_
              refine s_iload_n 101 dX3_splits_100 rfl rfl ?_
              refine s_iconst 102 dX3_splits_101 rfl ?_
              refine s_isub 103 dX3_splits_102 rfl ?_
              refine s_callS0 (M' := (M_X3_splits d)) (as := [_, _, _]) 106 dX3_splits_103 rfl cw_X3_25 rfl rfl (by first | exact Nat.le_of_ble_eq_true rfl | (simp only [mrk]; omega)) (Nat.le_of_ble_eq_true rfl) (Nat.le_of_ble_eq_true rfl) ⟨rfl, rfl, rfl⟩ ?_
              refine ih hT hN hP hNP hr hsc hg g2 xs hm2 hd2 (fun I3 g3 g4 => ?_)
              refine s_ifb_eq 113 109 dX3_splits_106 rfl rfl (fun h_106 => ?_) (fun h_106 => ?_)
              · skip
                refine s_iconst 114 dX3_splits_113 rfl ?_
                refine s_zret dX3_splits_114 rfl (by first | omega | exact bI_b _) rfl ?_
                first | exact ret_t (kf.mpr ⟨h_94.2, h_106⟩) (h I3 ((h4.tr g1).tr g3) g4) | exact ret_f (fun z => h_106 (kf.mp z).2) (h I3 ((h4.tr g1).tr g3) g4) | exact ret_f (fun z => h_94 ⟨by omega, (kf.mp z).1⟩) (h I2 (h4.tr g1) g2)
              refine s_iconst 110 dX3_splits_109 rfl ?_
              refine s_goto 114 dX3_splits_110 rfl ?_
              refine s_zret dX3_splits_114 rfl (by first | omega | exact bI_b _) rfl ?_
              first | exact ret_t (kf.mpr ⟨h_94.2, h_106⟩) (h I3 ((h4.tr g1).tr g3) g4) | exact ret_f (fun z => h_106 (kf.mp z).2) (h I3 ((h4.tr g1).tr g3) g4) | exact ret_f (fun z => h_94 ⟨by omega, (kf.mp z).1⟩) (h I2 (h4.tr g1) g2)
            · have nx := sub_next (s := ixor rest (lowI rest)) ⟨by omega, by omega⟩ ⟨by omega, by omega⟩ h3
              have go : ∀ J, Eqo [N + 1] I J → GW3 N P r rd g sc cut J → ¬ (MayP r rd g sc cut (ior (lowI rest) x) ∧ Spl (MayP r rd g sc cut) (m - 1).toNat (ixor (ixor rest (lowI rest)) x)) → V X (M_X3_splits (d + 1)) z0 44 [some (vr (N)), some (vi (rest)), some (vi (m)), some (vi (lowI rest)), some (vi (ixor rest (lowI rest))), some (vi (iand (x - 1) (ixor rest (lowI rest))))] [] (J) L R (RT X (M_X3_splits (d + 1)) Q) := fun J j1 j2 j3 => ih2 _ J (by omega) nx.1 nx.2.2.1 j1 j2 (fun y y1 y2 y3 => by
                by_cases e : y = x
                · subst e; exact j3
                · by_cases e2 : y < x
                  · have := nx.2.2.2.2.2.2 y y1 e2 y2; omega
                  · exact h5 y y1 y2 (by omega))
              refine s_iload 46 dX3_splits_44 rfl rfl ?_
              refine s_if_le 89 49 dX3_splits_46 rfl rfl (by first | omega | exact bI_r _ | exact iI_r _) (fun h_46 => by exfalso; omega) (fun h_46 => ?_)
              refine s_aload_n 50 dX3_splits_49 rfl rfl ?_
              refine s_iload_n 51 dX3_splits_50 rfl rfl ?_
              refine s_iload 53 dX3_splits_51 rfl rfl ?_
              refine s_ior 54 dX3_splits_53 rfl ?_
              refine s_callU0 (M' := M_X3_good) (as := [_]) 57 dX3_splits_54 rfl cw_X3_29_3 rfl rfl (isN_sh hN) rfl (by decide) (isN_lt hN) (by first | exact Nat.le_of_ble_eq_true rfl | (simp only [mrk]; omega)) (Nat.le_of_ble_eq_true rfl) (Nat.le_of_ble_eq_true rfl) ⟨rfl, rfl, rfl⟩ ?_
              refine c_X3_good3 hT hN hP hNP hr hsc hg hW1 (by omega) (fun I2 g1 g2 => ?_)
              refine s_ifb_eq 77 60 dX3_splits_57 rfl rfl (fun h_57 => ?_) (fun h_57 => ?_)
              · skip
                refine s_iload 79 dX3_splits_77 rfl rfl ?_
                refine s_iconst 80 dX3_splits_79 rfl ?_
                refine s_isub 81 dX3_splits_80 rfl ?_
                refine s_iload 83 dX3_splits_81 rfl rfl ?_
                refine s_iand 84 dX3_splits_83 rfl ?_
                refine s_istore (ls' := [_, _, _, _, _, _]) 86 dX3_splits_84 rfl (Nat.le_of_ble_eq_true rfl) rfl rfl ?_
                refine s_goto 44 dX3_splits_86 rfl ?_
                first | exact go I3 ((h4.tr g1).tr g3) g4 (fun z => h_72 z.2) | exact go I2 (h4.tr g1) g2 (fun z => h_57 ⟨⟨by omega, by omega⟩, z.1⟩)
              refine s_aload_n 61 dX3_splits_60 rfl rfl ?_
              refine s_iload 63 dX3_splits_61 rfl rfl ?_
              refine s_iload 65 dX3_splits_63 rfl rfl ?_
              refine s_ixor 66 dX3_splits_65 rfl ?_
              refine s_iload_n 67 dX3_splits_66 rfl rfl ?_
              refine s_iconst 68 dX3_splits_67 rfl ?_
              refine s_isub 69 dX3_splits_68 rfl ?_
              refine s_callS0 (M' := (M_X3_splits d)) (as := [_, _, _]) 72 dX3_splits_69 rfl cw_X3_25 rfl rfl (by first | exact Nat.le_of_ble_eq_true rfl | (simp only [mrk]; omega)) (Nat.le_of_ble_eq_true rfl) (Nat.le_of_ble_eq_true rfl) ⟨rfl, rfl, rfl⟩ ?_
              refine ih hT hN hP hNP hr hsc hg g2 xs hm2 hd2 (fun I3 g3 g4 => ?_)
              refine s_ifb_eq 77 75 dX3_splits_72 rfl rfl (fun h_72 => ?_) (fun h_72 => ?_)
              · skip
                refine s_iload 79 dX3_splits_77 rfl rfl ?_
                refine s_iconst 80 dX3_splits_79 rfl ?_
                refine s_isub 81 dX3_splits_80 rfl ?_
                refine s_iload 83 dX3_splits_81 rfl rfl ?_
                refine s_iand 84 dX3_splits_83 rfl ?_
                refine s_istore (ls' := [_, _, _, _, _, _]) 86 dX3_splits_84 rfl (Nat.le_of_ble_eq_true rfl) rfl rfl ?_
                refine s_goto 44 dX3_splits_86 rfl ?_
                first | exact go I3 ((h4.tr g1).tr g3) g4 (fun z => h_72 z.2) | exact go I2 (h4.tr g1) g2 (fun z => h_57 ⟨⟨by omega, by omega⟩, z.1⟩)
              refine s_iconst 76 dX3_splits_75 rfl ?_
              refine s_zret dX3_splits_76 rfl (by first | omega | exact bI_b _) rfl ?_
              exact ret_t (key.mpr ⟨x, h2, h3, h_57.2, h_72⟩) (h I3 ((h4.tr g1).tr g3) g4)
        refine s_iload_n 1 dX3_splits_0 rfl rfl ?_
        refine s_if_ne 6 4 dX3_splits_1 rfl rfl (by first | omega | exact bI_r _ | exact iI_r _) (fun h_1 => ?_) (fun h_1 => by exfalso; omega)
        refine s_iload_n 7 dX3_splits_6 rfl rfl ?_
        refine s_iconst 8 dX3_splits_7 rfl ?_
        refine s_icmp_gt 30 11 dX3_splits_8 rfl rfl (by first | omega | exact bI_r _ | exact iI_r _) (by first | omega | exact bI_r _ | exact iI_r _) (fun h_8 => ?_) (fun h_8 => by exfalso; omega)
        refine s_iload_n 31 dX3_splits_30 rfl rfl ?_
        refine s_iload_n 32 dX3_splits_31 rfl rfl ?_
        refine s_ineg 33 dX3_splits_32 rfl ?_
        refine s_iand 34 dX3_splits_33 rfl ?_
        refine s_istore_n (ls' := [_, _, _, _, _, _]) 35 dX3_splits_34 rfl (Nat.le_of_ble_eq_true rfl) rfl rfl ?_
        refine s_iload_n 36 dX3_splits_35 rfl rfl ?_
        refine s_iload_n 37 dX3_splits_36 rfl rfl ?_
        refine s_ixor 38 dX3_splits_37 rfl ?_
        refine s_istore (ls' := [_, _, _, _, _, _]) 40 dX3_splits_38 rfl (Nat.le_of_ble_eq_true rfl) rfl rfl ?_
        refine s_iload 42 dX3_splits_40 rfl rfl ?_
        refine s_istore (ls' := [_, _, _, _, _, _]) 44 dX3_splits_42 rfl (Nat.le_of_ble_eq_true rfl) rfl rfl ?_
        exact loop 129 (ixor rest (lowI rest)) I (by omega) lo.2.2.2.1 (chk_self ⟨by omega, by omega⟩) Eqo.rf hW (fun y y1 y2 y3 => by have := sub_le ⟨by omega, by omega⟩ y2; omega)
set_option maxHeartbeats 4000000 in
theorem c_X3_fewestFor3 {E : ET} {I : MI} {L : ML} {R : MR} {Q : Option AV → MI → ML → MR → Prop} {N P : Nat} {r sc : F1} {rd g cut : Int} {set : Int} (hT : Topo R) (hN : isN N) (hP : isP P) (hNP : R N 1 = some P) (hr : WFr r) (hsc : Perm (r 5) sc) (hg : 0 ≤ g ∧ g ≤ 99) (hW : GW3 N P r rd g sc cut I) (hset : 0 ≤ set ∧ set ≤ 127) (h : ∀ I', Eqo [N + 1] I I' → GW3 N P r rd g sc cut I' → Q (some (vi (splV (MayP r rd g sc cut) set))) I' L R) : CT E M_X3_fewestFor 161 yX3_fewestFor [(vr (N)), (vi (set))] I L R Q := by
  refine CT_of rfl rfl (fun h => by cases h) (Nat.le_of_ble_eq_true rfl) (fun X => ?_)
  show V X _ z0 0 [some (vr (N)), some (vi (set)), none] [] I L R _
  have loop : ∀ (f : Nat) (p : Int) (I1 : MI), 8 - p < (f : Int) → 0 ≤ p → p ≤ 8 → Eqo [N + 1] I I1 → GW3 N P r rd g sc cut I1 → (∀ m : Nat, (m : Int) < p → ¬ Spl (MayP r rd g sc cut) m set) → V X M_X3_fewestFor z0 2 [some (vr (N)), some (vi (set)), some (vi (p))] [] (I1) L R (RT X M_X3_fewestFor Q) := by
    intro f
    induction f with
    | zero => intro p I1 h1 h2 h3; omega
    | succ f ih =>
      intro p I1 h1 h2 h3 h4 hW1 h5
      by_cases hp : p = 8
      · subst hp
        have e : splV (MayP r rd g sc cut) set = -2 := SplV.v (Or.inl ⟨rfl, fun m z => h5 7 (by decide) (Spl_7 hset z)⟩)
        rw [e] at h
        refine s_iload_n 3 dX3_fewestFor_2 rfl rfl ?_
        refine s_bipush 5 dX3_fewestFor_3 rfl (by decide) ?_
        refine s_icmp_gt 25 8 dX3_fewestFor_5 rfl rfl (by first | omega | exact bI_r _ | exact iI_r _) (by first | omega | exact bI_r _ | exact iI_r _) (fun h_5 => ?_) (fun h_5 => by exfalso; omega)
        refine s_bipush 27 dX3_fewestFor_25 rfl (by decide) ?_
        refine s_iret dX3_fewestFor_27 rfl rfl ?_
        exact h I1 h4 hW1
      · skip
        refine s_iload_n 3 dX3_fewestFor_2 rfl rfl ?_
        refine s_bipush 5 dX3_fewestFor_3 rfl (by decide) ?_
        refine s_icmp_gt 25 8 dX3_fewestFor_5 rfl rfl (by first | omega | exact bI_r _ | exact iI_r _) (by first | omega | exact bI_r _ | exact iI_r _) (fun h_5 => by exfalso; omega) (fun h_5 => ?_)
        refine s_aload_n 9 dX3_fewestFor_8 rfl rfl ?_
        refine s_iload_n 10 dX3_fewestFor_9 rfl rfl ?_
        refine s_iload_n 11 dX3_fewestFor_10 rfl rfl ?_
        refine s_callS0 (M' := (M_X3_splits 8)) (as := [_, _, _]) 14 dX3_fewestFor_11 rfl cw_X3_25 rfl rfl (by first | exact Nat.le_of_ble_eq_true rfl | (simp only [mrk]; omega)) (Nat.le_of_ble_eq_true rfl) (Nat.le_of_ble_eq_true rfl) ⟨rfl, rfl, rfl⟩ ?_
        refine c_X3_splits3 8 hT hN hP hNP hr hsc hg hW1 hset ⟨by omega, by omega⟩ (by omega) (fun I2 g1 g2 => ?_)
        refine s_ifb_eq 19 17 dX3_fewestFor_14 rfl rfl (fun h_14 => ?_) (fun h_14 => ?_)
        · skip
          refine s_iinc (ls' := [_, _, _]) 22 dX3_fewestFor_19 rfl rfl (Nat.le_of_ble_eq_true rfl) rfl rfl ?_
          refine s_goto 2 dX3_fewestFor_22 rfl ?_
          refine ih (p + 1) I2 (by omega) (by omega) (by omega) (h4.tr g1) g2 (fun m m1 z => ?_)
          by_cases e : (m : Int) = p
          · rw [show m = p.toNat by omega] at z; exact h_14 z
          · exact h5 m (by omega) z
        refine s_iload_n 18 dX3_fewestFor_17 rfl rfl ?_
        refine s_iret dX3_fewestFor_18 rfl rfl ?_
        have e : splV (MayP r rd g sc cut) set = p := SplV.v (Or.inr ⟨h2, h_14, h5⟩)
        rw [e] at h
        exact h I2 (h4.tr g1) g2
  refine s_iconst 1 dX3_fewestFor_0 rfl ?_
  refine s_istore_n (ls' := [_, _, _]) 2 dX3_fewestFor_1 rfl (Nat.le_of_ble_eq_true rfl) rfl rfl ?_
  exact loop 10 0 I (by omega) (by omega) (by omega) Eqo.rf hW (fun m z => by omega)
set_option maxHeartbeats 4000000 in
theorem c_X3_good7 {E : ET} {I : MI} {L : ML} {R : MR} {Q : Option AV → MI → ML → MR → Prop} {P : Nat} {r : F1} {set : Int} (hT : Topo R) (hP : isP P) (h8 : R 135 1 = some P) (hr : WFr r) (hh : wHr r) (hW : GW7 P r I) (hset : -2147483648 ≤ set ∧ set ≤ 2147483647) (h : ∀ I', Eqo [136] I I' → GW7 P r I' → Q (some (vi (bI ((0 ≤ set ∧ set < 128) ∧ SeenP r set)))) I' L R) : CT E M_X3_good 161 yX3_good [(vr (135)), (vi (set))] I L R Q := by
  refine CT_of rfl rfl (fun h => by cases h) (Nat.le_of_ble_eq_true rfl) (fun X => ?_)
  show V X _ z0 0 [some (vr (135)), some (vi (set))] [] I L R _
  by_cases h0 : 0 ≤ set ∧ set < 128
  · rcases hW.2.2 set h0.1 h0.2 with e | ⟨e, hg9⟩ | ⟨e, hg9⟩
    · skip
      refine s_iload_n 1 dX3_good_0 rfl rfl ?_
      refine s_if_lt 11 4 dX3_good_1 rfl rfl (by first | omega | exact bI_r _ | exact iI_r _) (fun h_1 => by exfalso; omega) (fun h_1 => ?_)
      refine s_iload_n 5 dX3_good_4 rfl rfl ?_
      refine s_sipush 8 dX3_good_5 rfl (by decide) ?_
      refine s_icmp_lt 13 11 dX3_good_8 rfl rfl (by first | omega | exact bI_r _ | exact iI_r _) (by first | omega | exact bI_r _ | exact iI_r _) (fun h_8 => ?_) (fun h_8 => by exfalso; omega)
      refine s_aload_n 14 dX3_good_13 rfl rfl ?_
      refine s_getR 17 dX3_good_14 rfl fl_X3_9_7 (fun _ _ _ _ => rfl) (T_X8_known hT) sh_135 (Nat.le_of_ble_eq_true rfl) ?_
      refine s_iload_n 18 dX3_good_17 rfl rfl ?_
      refine s_iald 19 dX3_good_18 rfl sh_136 (Nat.le_of_ble_eq_true rfl) (by omega) (by omega) (fun r_18 => ?_)
      rw [e]
      refine s_if_ne 41 22 dX3_good_19 rfl rfl (by first | omega | exact bI_r _ | exact iI_r _) (fun h_19 => by exfalso; omega) (fun h_19 => ?_)
      refine s_aload_n 23 dX3_good_22 rfl rfl ?_
      refine s_getR 26 dX3_good_23 rfl fl_X3_9_7 (fun _ _ _ _ => rfl) (T_X8_known hT) sh_135 (Nat.le_of_ble_eq_true rfl) ?_
      refine s_iload_n 27 dX3_good_26 rfl rfl ?_
      refine s_aload_n 28 dX3_good_27 rfl rfl ?_
      refine s_iload_n 29 dX3_good_28 rfl rfl ?_
      refine s_callA0 (M' := M_X8_fits) (as := [_]) 32 dX3_good_29 rfl cw_X3_21_7 rfl rfl sh_135 rfl (by decide) (Nat.le_of_ble_eq_true rfl) (Nat.le_of_ble_eq_true rfl) (Nat.le_of_ble_eq_true rfl) (Nat.le_of_ble_eq_true rfl) ⟨rfl, rfl, rfl⟩ ?_
      refine c_X8_fits hT hP h8 hr hh hW.1 hW.2.1 ?_
      refine s_ifb_eq 39 35 dX3_good_32 rfl rfl (fun h_32 => ?_) (fun h_32 => ?_)
      · skip
        refine s_iconst 40 dX3_good_39 rfl ?_
        refine s_iast 41 dX3_good_40 rfl sh_136 (Nat.le_of_ble_eq_true rfl) (by omega) (by omega) (by first | omega | exact bI_r _ | exact iI_r _) ?_
        refine s_aload_n 42 dX3_good_41 rfl rfl ?_
        refine s_getR 45 dX3_good_42 rfl fl_X3_9_7 (fun _ _ _ _ => rfl) (T_X8_known hT) sh_135 (Nat.le_of_ble_eq_true rfl) ?_
        refine s_iload_n 46 dX3_good_45 rfl rfl ?_
        refine s_iald 47 dX3_good_46 rfl sh_136 (Nat.le_of_ble_eq_true rfl) (by omega) (by omega) (fun r_46 => ?_)
        rw [ups]
        refine s_iconst 48 dX3_good_47 rfl ?_
        refine s_icmp_ne 55 51 dX3_good_48 rfl rfl (by first | omega | exact bI_r _ | exact iI_r _) (by first | omega | exact bI_r _ | exact iI_r _) (fun h_48 => ?_) (fun h_48 => ?_)
        · skip
          refine s_iconst 56 dX3_good_55 rfl ?_
          refine s_zret dX3_good_56 rfl (by first | omega | exact bI_b _) rfl ?_
          first | exact ret_t ⟨h0, h_32⟩ (h _ (Eqo.rf.st (by simp)) (hW.mv hP hr (Eqo.rf.st (by simp)) (hW.2.2.pt (Or.inl ⟨rfl, h_32⟩)))) | exact ret_f (fun z => h_32 z.2) (h _ (Eqo.rf.st (by simp)) (hW.mv hP hr (Eqo.rf.st (by simp)) (hW.2.2.pt (Or.inr ⟨rfl, h_32⟩)))) | omega
        refine s_iconst 52 dX3_good_51 rfl ?_
        refine s_goto 56 dX3_good_52 rfl ?_
        refine s_zret dX3_good_56 rfl (by first | omega | exact bI_b _) rfl ?_
        first | exact ret_t ⟨h0, h_32⟩ (h _ (Eqo.rf.st (by simp)) (hW.mv hP hr (Eqo.rf.st (by simp)) (hW.2.2.pt (Or.inl ⟨rfl, h_32⟩)))) | exact ret_f (fun z => h_32 z.2) (h _ (Eqo.rf.st (by simp)) (hW.mv hP hr (Eqo.rf.st (by simp)) (hW.2.2.pt (Or.inr ⟨rfl, h_32⟩)))) | omega
      refine s_iconst 36 dX3_good_35 rfl ?_
      refine s_goto 40 dX3_good_36 rfl ?_
      refine s_iast 41 dX3_good_40 rfl sh_136 (Nat.le_of_ble_eq_true rfl) (by omega) (by omega) (by first | omega | exact bI_r _ | exact iI_r _) ?_
      refine s_aload_n 42 dX3_good_41 rfl rfl ?_
      refine s_getR 45 dX3_good_42 rfl fl_X3_9_7 (fun _ _ _ _ => rfl) (T_X8_known hT) sh_135 (Nat.le_of_ble_eq_true rfl) ?_
      refine s_iload_n 46 dX3_good_45 rfl rfl ?_
      refine s_iald 47 dX3_good_46 rfl sh_136 (Nat.le_of_ble_eq_true rfl) (by omega) (by omega) (fun r_46 => ?_)
      rw [ups]
      refine s_iconst 48 dX3_good_47 rfl ?_
      refine s_icmp_ne 55 51 dX3_good_48 rfl rfl (by first | omega | exact bI_r _ | exact iI_r _) (by first | omega | exact bI_r _ | exact iI_r _) (fun h_48 => ?_) (fun h_48 => ?_)
      · skip
        refine s_iconst 56 dX3_good_55 rfl ?_
        refine s_zret dX3_good_56 rfl (by first | omega | exact bI_b _) rfl ?_
        first | exact ret_t ⟨h0, h_32⟩ (h _ (Eqo.rf.st (by simp)) (hW.mv hP hr (Eqo.rf.st (by simp)) (hW.2.2.pt (Or.inl ⟨rfl, h_32⟩)))) | exact ret_f (fun z => h_32 z.2) (h _ (Eqo.rf.st (by simp)) (hW.mv hP hr (Eqo.rf.st (by simp)) (hW.2.2.pt (Or.inr ⟨rfl, h_32⟩)))) | omega
      refine s_iconst 52 dX3_good_51 rfl ?_
      refine s_goto 56 dX3_good_52 rfl ?_
      refine s_zret dX3_good_56 rfl (by first | omega | exact bI_b _) rfl ?_
      first | exact ret_t ⟨h0, h_32⟩ (h _ (Eqo.rf.st (by simp)) (hW.mv hP hr (Eqo.rf.st (by simp)) (hW.2.2.pt (Or.inl ⟨rfl, h_32⟩)))) | exact ret_f (fun z => h_32 z.2) (h _ (Eqo.rf.st (by simp)) (hW.mv hP hr (Eqo.rf.st (by simp)) (hW.2.2.pt (Or.inr ⟨rfl, h_32⟩)))) | omega
    · skip
      refine s_iload_n 1 dX3_good_0 rfl rfl ?_
      refine s_if_lt 11 4 dX3_good_1 rfl rfl (by first | omega | exact bI_r _ | exact iI_r _) (fun h_1 => by exfalso; omega) (fun h_1 => ?_)
      refine s_iload_n 5 dX3_good_4 rfl rfl ?_
      refine s_sipush 8 dX3_good_5 rfl (by decide) ?_
      refine s_icmp_lt 13 11 dX3_good_8 rfl rfl (by first | omega | exact bI_r _ | exact iI_r _) (by first | omega | exact bI_r _ | exact iI_r _) (fun h_8 => ?_) (fun h_8 => by exfalso; omega)
      refine s_aload_n 14 dX3_good_13 rfl rfl ?_
      refine s_getR 17 dX3_good_14 rfl fl_X3_9_7 (fun _ _ _ _ => rfl) (T_X8_known hT) sh_135 (Nat.le_of_ble_eq_true rfl) ?_
      refine s_iload_n 18 dX3_good_17 rfl rfl ?_
      refine s_iald 19 dX3_good_18 rfl sh_136 (Nat.le_of_ble_eq_true rfl) (by omega) (by omega) (fun r_18 => ?_)
      rw [e]
      refine s_if_ne 41 22 dX3_good_19 rfl rfl (by first | omega | exact bI_r _ | exact iI_r _) (fun h_19 => ?_) (fun h_19 => by exfalso; omega)
      refine s_aload_n 42 dX3_good_41 rfl rfl ?_
      refine s_getR 45 dX3_good_42 rfl fl_X3_9_7 (fun _ _ _ _ => rfl) (T_X8_known hT) sh_135 (Nat.le_of_ble_eq_true rfl) ?_
      refine s_iload_n 46 dX3_good_45 rfl rfl ?_
      refine s_iald 47 dX3_good_46 rfl sh_136 (Nat.le_of_ble_eq_true rfl) (by omega) (by omega) (fun r_46 => ?_)
      rw [e]
      refine s_iconst 48 dX3_good_47 rfl ?_
      refine s_icmp_ne 55 51 dX3_good_48 rfl rfl (by first | omega | exact bI_r _ | exact iI_r _) (by first | omega | exact bI_r _ | exact iI_r _) (fun h_48 => by exfalso; omega) (fun h_48 => ?_)
      refine s_iconst 52 dX3_good_51 rfl ?_
      refine s_goto 56 dX3_good_52 rfl ?_
      refine s_zret dX3_good_56 rfl (by first | omega | exact bI_b _) rfl ?_
      exact ret_t ⟨h0, hg9⟩ (h I Eqo.rf hW)
    · skip
      refine s_iload_n 1 dX3_good_0 rfl rfl ?_
      refine s_if_lt 11 4 dX3_good_1 rfl rfl (by first | omega | exact bI_r _ | exact iI_r _) (fun h_1 => by exfalso; omega) (fun h_1 => ?_)
      refine s_iload_n 5 dX3_good_4 rfl rfl ?_
      refine s_sipush 8 dX3_good_5 rfl (by decide) ?_
      refine s_icmp_lt 13 11 dX3_good_8 rfl rfl (by first | omega | exact bI_r _ | exact iI_r _) (by first | omega | exact bI_r _ | exact iI_r _) (fun h_8 => ?_) (fun h_8 => by exfalso; omega)
      refine s_aload_n 14 dX3_good_13 rfl rfl ?_
      refine s_getR 17 dX3_good_14 rfl fl_X3_9_7 (fun _ _ _ _ => rfl) (T_X8_known hT) sh_135 (Nat.le_of_ble_eq_true rfl) ?_
      refine s_iload_n 18 dX3_good_17 rfl rfl ?_
      refine s_iald 19 dX3_good_18 rfl sh_136 (Nat.le_of_ble_eq_true rfl) (by omega) (by omega) (fun r_18 => ?_)
      rw [e]
      refine s_if_ne 41 22 dX3_good_19 rfl rfl (by first | omega | exact bI_r _ | exact iI_r _) (fun h_19 => ?_) (fun h_19 => by exfalso; omega)
      refine s_aload_n 42 dX3_good_41 rfl rfl ?_
      refine s_getR 45 dX3_good_42 rfl fl_X3_9_7 (fun _ _ _ _ => rfl) (T_X8_known hT) sh_135 (Nat.le_of_ble_eq_true rfl) ?_
      refine s_iload_n 46 dX3_good_45 rfl rfl ?_
      refine s_iald 47 dX3_good_46 rfl sh_136 (Nat.le_of_ble_eq_true rfl) (by omega) (by omega) (fun r_46 => ?_)
      rw [e]
      refine s_iconst 48 dX3_good_47 rfl ?_
      refine s_icmp_ne 55 51 dX3_good_48 rfl rfl (by first | omega | exact bI_r _ | exact iI_r _) (by first | omega | exact bI_r _ | exact iI_r _) (fun h_48 => ?_) (fun h_48 => by exfalso; omega)
      refine s_iconst 56 dX3_good_55 rfl ?_
      refine s_zret dX3_good_56 rfl (by first | omega | exact bI_b _) rfl ?_
      exact ret_f (fun z => hg9 z.2) (h I Eqo.rf hW)
  · skip
    refine s_iload_n 1 dX3_good_0 rfl rfl ?_
    refine s_if_lt 11 4 dX3_good_1 rfl rfl (by first | omega | exact bI_r _ | exact iI_r _) (fun h_1 => ?_) (fun h_1 => ?_)
    · skip
      refine s_iconst 12 dX3_good_11 rfl ?_
      refine s_zret dX3_good_12 rfl (by first | omega | exact bI_b _) rfl ?_
      exact ret_f (fun z => h0 z.1) (h I Eqo.rf hW)
    refine s_iload_n 5 dX3_good_4 rfl rfl ?_
    refine s_sipush 8 dX3_good_5 rfl (by decide) ?_
    refine s_icmp_lt 13 11 dX3_good_8 rfl rfl (by first | omega | exact bI_r _ | exact iI_r _) (by first | omega | exact bI_r _ | exact iI_r _) (fun h_8 => ?_) (fun h_8 => ?_)
    · skip
      exact absurd ⟨by omega, by omega⟩ h0
    refine s_iconst 12 dX3_good_11 rfl ?_
    refine s_zret dX3_good_12 rfl (by first | omega | exact bI_b _) rfl ?_
    exact ret_f (fun z => h0 z.1) (h I Eqo.rf hW)
set_option maxHeartbeats 4000000 in
theorem c_X3_splits7 (d : Nat) : ∀ {E : ET} {I : MI} {L : ML} {R : MR} {Q : Option AV → MI → ML → MR → Prop} {P : Nat} {r : F1} {rest m : Int} (hT : Topo R) (hP : isP P) (h8 : R 135 1 = some P) (hr : WFr r) (hh : wHr r) (hW : GW7 P r I) (hr0 : 0 ≤ rest ∧ rest ≤ 127) (hm : 0 ≤ m ∧ m ≤ 7) (hd : m < (d : Int)) (h : ∀ I', Eqo [136] I I' → GW7 P r I' → Q (some (vi (bI (Spl (SeenP r) m.toNat rest)))) I' L R), CT E (M_X3_splits d) 161 yX3_splits [(vr (135)), (vi (rest)), (vi (m))] I L R Q := by
  induction d with
  | zero => intros; exfalso; omega
  | succ d ih =>
  intro E I L R Q P r rest m hT hP h8 hr hh hW hr0 hm hd h
  refine CT_of rfl rfl (fun h => by cases h) (Nat.le_of_ble_eq_true rfl) (fun X => ?_)
  show V X _ z0 0 [some (vr (135)), some (vi (rest)), some (vi (m)), none, none, none] [] I L R _
  by_cases hz : rest = 0
  · subst hz
    refine s_iload_n 1 dX3_splits_0 rfl rfl ?_
    refine s_if_ne 6 4 dX3_splits_1 rfl rfl (by first | omega | exact bI_r _ | exact iI_r _) (fun h_1 => by exfalso; omega) (fun h_1 => ?_)
    refine s_iconst 5 dX3_splits_4 rfl ?_
    refine s_zret dX3_splits_5 rfl (by first | omega | exact bI_b _) rfl ?_
    exact ret_t (Spl_0 _) (h I Eqo.rf hW)
  · have hs : 0 < rest ∧ rest ≤ 127 := by omega
    have lo := low_ok hs
    by_cases hm0 : m = 0
    · subst hm0
      refine s_iload_n 1 dX3_splits_0 rfl rfl ?_
      refine s_if_ne 6 4 dX3_splits_1 rfl rfl (by first | omega | exact bI_r _ | exact iI_r _) (fun h_1 => ?_) (fun h_1 => by exfalso; omega)
      refine s_iload_n 7 dX3_splits_6 rfl rfl ?_
      refine s_iconst 8 dX3_splits_7 rfl ?_
      refine s_icmp_gt 30 11 dX3_splits_8 rfl rfl (by first | omega | exact bI_r _ | exact iI_r _) (by first | omega | exact bI_r _ | exact iI_r _) (fun h_8 => by exfalso; omega) (fun h_8 => ?_)
      refine s_iload_n 12 dX3_splits_11 rfl rfl ?_
      refine s_iconst 13 dX3_splits_12 rfl ?_
      refine s_icmp_ne 28 16 dX3_splits_13 rfl rfl (by first | omega | exact bI_r _ | exact iI_r _) (by first | omega | exact bI_r _ | exact iI_r _) (fun h_13 => ?_) (fun h_13 => by exfalso; omega)
      refine s_iconst 29 dX3_splits_28 rfl ?_
      refine s_zret dX3_splits_29 rfl (by first | omega | exact bI_b _) rfl ?_
      exact ret_f (fun z => hz z) (h I Eqo.rf hW)
    · by_cases hm1 : m = 1
      · subst hm1
        have e1 : ((0 ≤ rest ∧ rest < 128) ∧ SeenP r rest) ↔ Spl (SeenP r) (1 : Int).toNat rest := by
          constructor
          · intro z
            refine Or.inr ⟨rest, hs.1, hs.2, chk_self ⟨by omega, hs.2⟩, ?_, z.2, ?_⟩
            · have y := lo.2.2.1
              unfold sub at y
              rw [show iand rest (lowI rest) = iand (lowI rest) rest from set_ext (iand_r _ _) (iand_r _ _) (fun k k1 k2 => by rw [has_and ⟨k1, k2⟩, has_and ⟨k1, k2⟩]; exact And.comm), y]
              omega
            · show andN rest rest = 0
              unfold andN
              exact (andn_0 (by omega)).mpr (fun k k1 k2 k3 => k3)
          · rintro (z | ⟨o, o1, o2, o3, o4, o5, o6⟩)
            · omega
            · have o6 : andN rest o = 0 := o6
              unfold andN at o6
              have : o = rest := set_ext (by omega) (by omega) (fun k k1 k2 => ⟨fun y => sub_has o3 ⟨k1, k2⟩ y, fun y => (andn_0 (by omega)).mp o6 k k1 k2 y⟩)
              subst this
              exact ⟨⟨by omega, by omega⟩, o5⟩
        rw [← bI_c e1] at h
        refine s_iload_n 1 dX3_splits_0 rfl rfl ?_
        refine s_if_ne 6 4 dX3_splits_1 rfl rfl (by first | omega | exact bI_r _ | exact iI_r _) (fun h_1 => ?_) (fun h_1 => by exfalso; omega)
        refine s_iload_n 7 dX3_splits_6 rfl rfl ?_
        refine s_iconst 8 dX3_splits_7 rfl ?_
        refine s_icmp_gt 30 11 dX3_splits_8 rfl rfl (by first | omega | exact bI_r _ | exact iI_r _) (by first | omega | exact bI_r _ | exact iI_r _) (fun h_8 => by exfalso; omega) (fun h_8 => ?_)
        refine s_iload_n 12 dX3_splits_11 rfl rfl ?_
        refine s_iconst 13 dX3_splits_12 rfl ?_
        refine s_icmp_ne 28 16 dX3_splits_13 rfl rfl (by first | omega | exact bI_r _ | exact iI_r _) (by first | omega | exact bI_r _ | exact iI_r _) (fun h_13 => by exfalso; omega) (fun h_13 => ?_)
        refine s_aload_n 17 dX3_splits_16 rfl rfl ?_
        refine s_iload_n 18 dX3_splits_17 rfl rfl ?_
        refine s_callU0 (M' := M_X3_good) (as := [_]) 21 dX3_splits_18 rfl cw_X3_29_7 rfl rfl sh_135 rfl (by decide) (Nat.le_of_ble_eq_true rfl) (by first | exact Nat.le_of_ble_eq_true rfl | (simp only [mrk]; omega)) (Nat.le_of_ble_eq_true rfl) (Nat.le_of_ble_eq_true rfl) ⟨rfl, rfl, rfl⟩ ?_
        refine c_X3_good7 hT hP h8 hr hh hW (by omega) (fun I2 g1 g2 => ?_)
        refine s_ifb_eq 28 24 dX3_splits_21 rfl rfl (fun h_21 => ?_) (fun h_21 => ?_)
        · skip
          refine s_iconst 29 dX3_splits_28 rfl ?_
          refine s_zret dX3_splits_29 rfl (by first | omega | exact bI_b _) rfl ?_
          first | exact ret_t h_21 (h I2 g1 g2) | exact ret_f h_21 (h I2 g1 g2)
        refine s_iconst 25 dX3_splits_24 rfl ?_
        refine s_goto 29 dX3_splits_25 rfl ?_
        refine s_zret dX3_splits_29 rfl (by first | omega | exact bI_b _) rfl ?_
        first | exact ret_t h_21 (h I2 g1 g2) | exact ret_f h_21 (h I2 g1 g2)
      · have hm2 : 0 ≤ m - 1 ∧ m - 1 ≤ 7 := by omega
        have hd2 : m - 1 < (d : Int) := by omega
        have em : m.toNat = (m - 1).toNat + 1 := by omega
        rw [em] at h
        have key := Spl_low (G := SeenP r) (m := (m - 1).toNat) hs
        have loop : ∀ (f : Nat) (x : Int) (I1 : MI), x < (f : Int) → 0 ≤ x → sub x (ixor rest (lowI rest)) → Eqo [136] I I1 → GW7 P r I1 → (∀ y, 0 ≤ y → sub y (ixor rest (lowI rest)) → x < y → ¬ (SeenP r (ior (lowI rest) y) ∧ Spl (SeenP r) (m - 1).toNat (ixor (ixor rest (lowI rest)) y))) → V X (M_X3_splits (d + 1)) z0 44 [some (vr (135)), some (vi (rest)), some (vi (m)), some (vi (lowI rest)), some (vi (ixor rest (lowI rest))), some (vi (x))] [] (I1) L R (RT X (M_X3_splits (d + 1)) Q) := by
          intro f
          induction f with
          | zero => intro x I1 h1 h2; omega
          | succ f ih2 =>
            intro x I1 h1 h2 h3 h4 hW1 h5
            have xl := sub_le ⟨by omega, by omega⟩ h3
            have bk := blk_ok hs ⟨h2, by omega⟩ h3
            have xs : 0 ≤ ixor (ixor rest (lowI rest)) x ∧ ixor (ixor rest (lowI rest)) x ≤ 127 := by
              rw [bk.2.2.2.2]
              have := sub_next ⟨by omega, hs.2⟩ ⟨bk.1, by omega⟩ bk.2.2.1
              omega
            by_cases hx : x = 0
            · subst hx
              have e0 : ior (lowI rest) 0 = lowI rest := ior_0 (by omega)
              have e2 : ixor (ixor rest (lowI rest)) 0 = ixor rest (lowI rest) := set_ext (iI_r _) (by omega) (fun k k1 k2 => by
                rw [has_xor ⟨k1, k2⟩]
                have := has_0 ⟨k1, k2⟩
                exact ⟨fun z => Classical.byContradiction (fun y => z ⟨fun w => absurd w y, fun w => absurd w this⟩), fun z w => this (w.mp z)⟩)
              rw [e0] at bk
              rw [e2] at xs
              have kf : Spl (SeenP r) ((m - 1).toNat + 1) rest ↔ SeenP r (lowI rest) ∧ Spl (SeenP r) (m - 1).toNat (ixor rest (lowI rest)) := by
                rw [key]
                constructor
                · rintro ⟨y, y1, y2, y3, y4⟩
                  by_cases ey : y = 0
                  · subst ey; rw [e0] at y3; rw [e2] at y4; exact ⟨y3, y4⟩
                  · exact absurd ⟨y3, y4⟩ (h5 y y1 y2 (by omega))
                · rintro ⟨y3, y4⟩
                  exact ⟨0, by omega, h3, by rw [e0]; exact y3, by rw [e2]; exact y4⟩
              refine s_iload 46 dX3_splits_44 rfl rfl ?_
              refine s_if_le 89 49 dX3_splits_46 rfl rfl (by first | omega | exact bI_r _ | exact iI_r _) (fun h_46 => ?_) (fun h_46 => by exfalso; omega)
              refine s_aload_n 90 dX3_splits_89 rfl rfl ?_
              refine s_iload_n 91 dX3_splits_90 rfl rfl ?_
              refine s_callU0 (M' := M_X3_good) (as := [_]) 94 dX3_splits_91 rfl cw_X3_29_7 rfl rfl sh_135 rfl (by decide) (Nat.le_of_ble_eq_true rfl) (by first | exact Nat.le_of_ble_eq_true rfl | (simp only [mrk]; omega)) (Nat.le_of_ble_eq_true rfl) (Nat.le_of_ble_eq_true rfl) ⟨rfl, rfl, rfl⟩ ?_
              refine c_X3_good7 hT hP h8 hr hh hW1 (by omega) (fun I2 g1 g2 => ?_)
              refine s_ifb_eq 113 97 dX3_splits_94 rfl rfl (fun h_94 => ?_) (fun h_94 => ?_)
              · skip
                refine s_iconst 114 dX3_splits_113 rfl ?_
                refine s_zret dX3_splits_114 rfl (by first | omega | exact bI_b _) rfl ?_
                first | exact ret_t (kf.mpr ⟨h_94.2, h_106⟩) (h I3 ((h4.tr g1).tr g3) g4) | exact ret_f (fun z => h_106 (kf.mp z).2) (h I3 ((h4.tr g1).tr g3) g4) | exact ret_f (fun z => h_94 ⟨by omega, (kf.mp z).1⟩) (h I2 (h4.tr g1) g2)
              refine s_aload_n 98 dX3_splits_97 rfl rfl ?_
              refine s_iload 100 dX3_splits_98 rfl rfl ?_
              refine s_iload_n 101 dX3_splits_100 rfl rfl ?_
              refine s_iconst 102 dX3_splits_101 rfl ?_
              refine s_isub 103 dX3_splits_102 rfl ?_
              refine s_callS0 (M' := (M_X3_splits d)) (as := [_, _, _]) 106 dX3_splits_103 rfl cw_X3_25 rfl rfl (by first | exact Nat.le_of_ble_eq_true rfl | (simp only [mrk]; omega)) (Nat.le_of_ble_eq_true rfl) (Nat.le_of_ble_eq_true rfl) ⟨rfl, rfl, rfl⟩ ?_
              refine ih hT hP h8 hr hh g2 xs hm2 hd2 (fun I3 g3 g4 => ?_)
              refine s_ifb_eq 113 109 dX3_splits_106 rfl rfl (fun h_106 => ?_) (fun h_106 => ?_)
              · skip
                refine s_iconst 114 dX3_splits_113 rfl ?_
                refine s_zret dX3_splits_114 rfl (by first | omega | exact bI_b _) rfl ?_
                first | exact ret_t (kf.mpr ⟨h_94.2, h_106⟩) (h I3 ((h4.tr g1).tr g3) g4) | exact ret_f (fun z => h_106 (kf.mp z).2) (h I3 ((h4.tr g1).tr g3) g4) | exact ret_f (fun z => h_94 ⟨by omega, (kf.mp z).1⟩) (h I2 (h4.tr g1) g2)
              refine s_iconst 110 dX3_splits_109 rfl ?_
              refine s_goto 114 dX3_splits_110 rfl ?_
              refine s_zret dX3_splits_114 rfl (by first | omega | exact bI_b _) rfl ?_
              first | exact ret_t (kf.mpr ⟨h_94.2, h_106⟩) (h I3 ((h4.tr g1).tr g3) g4) | exact ret_f (fun z => h_106 (kf.mp z).2) (h I3 ((h4.tr g1).tr g3) g4) | exact ret_f (fun z => h_94 ⟨by omega, (kf.mp z).1⟩) (h I2 (h4.tr g1) g2)
            · have nx := sub_next (s := ixor rest (lowI rest)) ⟨by omega, by omega⟩ ⟨by omega, by omega⟩ h3
              have go : ∀ J, Eqo [136] I J → GW7 P r J → ¬ (SeenP r (ior (lowI rest) x) ∧ Spl (SeenP r) (m - 1).toNat (ixor (ixor rest (lowI rest)) x)) → V X (M_X3_splits (d + 1)) z0 44 [some (vr (135)), some (vi (rest)), some (vi (m)), some (vi (lowI rest)), some (vi (ixor rest (lowI rest))), some (vi (iand (x - 1) (ixor rest (lowI rest))))] [] (J) L R (RT X (M_X3_splits (d + 1)) Q) := fun J j1 j2 j3 => ih2 _ J (by omega) nx.1 nx.2.2.1 j1 j2 (fun y y1 y2 y3 => by
                by_cases e : y = x
                · subst e; exact j3
                · by_cases e2 : y < x
                  · have := nx.2.2.2.2.2.2 y y1 e2 y2; omega
                  · exact h5 y y1 y2 (by omega))
              refine s_iload 46 dX3_splits_44 rfl rfl ?_
              refine s_if_le 89 49 dX3_splits_46 rfl rfl (by first | omega | exact bI_r _ | exact iI_r _) (fun h_46 => by exfalso; omega) (fun h_46 => ?_)
              refine s_aload_n 50 dX3_splits_49 rfl rfl ?_
              refine s_iload_n 51 dX3_splits_50 rfl rfl ?_
              refine s_iload 53 dX3_splits_51 rfl rfl ?_
              refine s_ior 54 dX3_splits_53 rfl ?_
              refine s_callU0 (M' := M_X3_good) (as := [_]) 57 dX3_splits_54 rfl cw_X3_29_7 rfl rfl sh_135 rfl (by decide) (Nat.le_of_ble_eq_true rfl) (by first | exact Nat.le_of_ble_eq_true rfl | (simp only [mrk]; omega)) (Nat.le_of_ble_eq_true rfl) (Nat.le_of_ble_eq_true rfl) ⟨rfl, rfl, rfl⟩ ?_
              refine c_X3_good7 hT hP h8 hr hh hW1 (by omega) (fun I2 g1 g2 => ?_)
              refine s_ifb_eq 77 60 dX3_splits_57 rfl rfl (fun h_57 => ?_) (fun h_57 => ?_)
              · skip
                refine s_iload 79 dX3_splits_77 rfl rfl ?_
                refine s_iconst 80 dX3_splits_79 rfl ?_
                refine s_isub 81 dX3_splits_80 rfl ?_
                refine s_iload 83 dX3_splits_81 rfl rfl ?_
                refine s_iand 84 dX3_splits_83 rfl ?_
                refine s_istore (ls' := [_, _, _, _, _, _]) 86 dX3_splits_84 rfl (Nat.le_of_ble_eq_true rfl) rfl rfl ?_
                refine s_goto 44 dX3_splits_86 rfl ?_
                first | exact go I3 ((h4.tr g1).tr g3) g4 (fun z => h_72 z.2) | exact go I2 (h4.tr g1) g2 (fun z => h_57 ⟨⟨by omega, by omega⟩, z.1⟩)
              refine s_aload_n 61 dX3_splits_60 rfl rfl ?_
              refine s_iload 63 dX3_splits_61 rfl rfl ?_
              refine s_iload 65 dX3_splits_63 rfl rfl ?_
              refine s_ixor 66 dX3_splits_65 rfl ?_
              refine s_iload_n 67 dX3_splits_66 rfl rfl ?_
              refine s_iconst 68 dX3_splits_67 rfl ?_
              refine s_isub 69 dX3_splits_68 rfl ?_
              refine s_callS0 (M' := (M_X3_splits d)) (as := [_, _, _]) 72 dX3_splits_69 rfl cw_X3_25 rfl rfl (by first | exact Nat.le_of_ble_eq_true rfl | (simp only [mrk]; omega)) (Nat.le_of_ble_eq_true rfl) (Nat.le_of_ble_eq_true rfl) ⟨rfl, rfl, rfl⟩ ?_
              refine ih hT hP h8 hr hh g2 xs hm2 hd2 (fun I3 g3 g4 => ?_)
              refine s_ifb_eq 77 75 dX3_splits_72 rfl rfl (fun h_72 => ?_) (fun h_72 => ?_)
              · skip
                refine s_iload 79 dX3_splits_77 rfl rfl ?_
                refine s_iconst 80 dX3_splits_79 rfl ?_
                refine s_isub 81 dX3_splits_80 rfl ?_
                refine s_iload 83 dX3_splits_81 rfl rfl ?_
                refine s_iand 84 dX3_splits_83 rfl ?_
                refine s_istore (ls' := [_, _, _, _, _, _]) 86 dX3_splits_84 rfl (Nat.le_of_ble_eq_true rfl) rfl rfl ?_
                refine s_goto 44 dX3_splits_86 rfl ?_
                first | exact go I3 ((h4.tr g1).tr g3) g4 (fun z => h_72 z.2) | exact go I2 (h4.tr g1) g2 (fun z => h_57 ⟨⟨by omega, by omega⟩, z.1⟩)
              refine s_iconst 76 dX3_splits_75 rfl ?_
              refine s_zret dX3_splits_76 rfl (by first | omega | exact bI_b _) rfl ?_
              exact ret_t (key.mpr ⟨x, h2, h3, h_57.2, h_72⟩) (h I3 ((h4.tr g1).tr g3) g4)
        refine s_iload_n 1 dX3_splits_0 rfl rfl ?_
        refine s_if_ne 6 4 dX3_splits_1 rfl rfl (by first | omega | exact bI_r _ | exact iI_r _) (fun h_1 => ?_) (fun h_1 => by exfalso; omega)
        refine s_iload_n 7 dX3_splits_6 rfl rfl ?_
        refine s_iconst 8 dX3_splits_7 rfl ?_
        refine s_icmp_gt 30 11 dX3_splits_8 rfl rfl (by first | omega | exact bI_r _ | exact iI_r _) (by first | omega | exact bI_r _ | exact iI_r _) (fun h_8 => ?_) (fun h_8 => by exfalso; omega)
        refine s_iload_n 31 dX3_splits_30 rfl rfl ?_
        refine s_iload_n 32 dX3_splits_31 rfl rfl ?_
        refine s_ineg 33 dX3_splits_32 rfl ?_
        refine s_iand 34 dX3_splits_33 rfl ?_
        refine s_istore_n (ls' := [_, _, _, _, _, _]) 35 dX3_splits_34 rfl (Nat.le_of_ble_eq_true rfl) rfl rfl ?_
        refine s_iload_n 36 dX3_splits_35 rfl rfl ?_
        refine s_iload_n 37 dX3_splits_36 rfl rfl ?_
        refine s_ixor 38 dX3_splits_37 rfl ?_
        refine s_istore (ls' := [_, _, _, _, _, _]) 40 dX3_splits_38 rfl (Nat.le_of_ble_eq_true rfl) rfl rfl ?_
        refine s_iload 42 dX3_splits_40 rfl rfl ?_
        refine s_istore (ls' := [_, _, _, _, _, _]) 44 dX3_splits_42 rfl (Nat.le_of_ble_eq_true rfl) rfl rfl ?_
        exact loop 129 (ixor rest (lowI rest)) I (by omega) lo.2.2.2.1 (chk_self ⟨by omega, by omega⟩) Eqo.rf hW (fun y y1 y2 y3 => by have := sub_le ⟨by omega, by omega⟩ y2; omega)
set_option maxHeartbeats 4000000 in
theorem c_X3_fewestFor7 {E : ET} {I : MI} {L : ML} {R : MR} {Q : Option AV → MI → ML → MR → Prop} {P : Nat} {r : F1} {set : Int} (hT : Topo R) (hP : isP P) (h8 : R 135 1 = some P) (hr : WFr r) (hh : wHr r) (hW : GW7 P r I) (hset : 0 ≤ set ∧ set ≤ 127) (h : ∀ I', Eqo [136] I I' → GW7 P r I' → Q (some (vi (splV (SeenP r) set))) I' L R) : CT E M_X3_fewestFor 161 yX3_fewestFor [(vr (135)), (vi (set))] I L R Q := by
  refine CT_of rfl rfl (fun h => by cases h) (Nat.le_of_ble_eq_true rfl) (fun X => ?_)
  show V X _ z0 0 [some (vr (135)), some (vi (set)), none] [] I L R _
  have loop : ∀ (f : Nat) (p : Int) (I1 : MI), 8 - p < (f : Int) → 0 ≤ p → p ≤ 8 → Eqo [136] I I1 → GW7 P r I1 → (∀ m : Nat, (m : Int) < p → ¬ Spl (SeenP r) m set) → V X M_X3_fewestFor z0 2 [some (vr (135)), some (vi (set)), some (vi (p))] [] (I1) L R (RT X M_X3_fewestFor Q) := by
    intro f
    induction f with
    | zero => intro p I1 h1 h2 h3; omega
    | succ f ih =>
      intro p I1 h1 h2 h3 h4 hW1 h5
      by_cases hp : p = 8
      · subst hp
        have e : splV (SeenP r) set = -2 := SplV.v (Or.inl ⟨rfl, fun m z => h5 7 (by decide) (Spl_7 hset z)⟩)
        rw [e] at h
        refine s_iload_n 3 dX3_fewestFor_2 rfl rfl ?_
        refine s_bipush 5 dX3_fewestFor_3 rfl (by decide) ?_
        refine s_icmp_gt 25 8 dX3_fewestFor_5 rfl rfl (by first | omega | exact bI_r _ | exact iI_r _) (by first | omega | exact bI_r _ | exact iI_r _) (fun h_5 => ?_) (fun h_5 => by exfalso; omega)
        refine s_bipush 27 dX3_fewestFor_25 rfl (by decide) ?_
        refine s_iret dX3_fewestFor_27 rfl rfl ?_
        exact h I1 h4 hW1
      · skip
        refine s_iload_n 3 dX3_fewestFor_2 rfl rfl ?_
        refine s_bipush 5 dX3_fewestFor_3 rfl (by decide) ?_
        refine s_icmp_gt 25 8 dX3_fewestFor_5 rfl rfl (by first | omega | exact bI_r _ | exact iI_r _) (by first | omega | exact bI_r _ | exact iI_r _) (fun h_5 => by exfalso; omega) (fun h_5 => ?_)
        refine s_aload_n 9 dX3_fewestFor_8 rfl rfl ?_
        refine s_iload_n 10 dX3_fewestFor_9 rfl rfl ?_
        refine s_iload_n 11 dX3_fewestFor_10 rfl rfl ?_
        refine s_callS0 (M' := (M_X3_splits 8)) (as := [_, _, _]) 14 dX3_fewestFor_11 rfl cw_X3_25 rfl rfl (by first | exact Nat.le_of_ble_eq_true rfl | (simp only [mrk]; omega)) (Nat.le_of_ble_eq_true rfl) (Nat.le_of_ble_eq_true rfl) ⟨rfl, rfl, rfl⟩ ?_
        refine c_X3_splits7 8 hT hP h8 hr hh hW1 hset ⟨by omega, by omega⟩ (by omega) (fun I2 g1 g2 => ?_)
        refine s_ifb_eq 19 17 dX3_fewestFor_14 rfl rfl (fun h_14 => ?_) (fun h_14 => ?_)
        · skip
          refine s_iinc (ls' := [_, _, _]) 22 dX3_fewestFor_19 rfl rfl (Nat.le_of_ble_eq_true rfl) rfl rfl ?_
          refine s_goto 2 dX3_fewestFor_22 rfl ?_
          refine ih (p + 1) I2 (by omega) (by omega) (by omega) (h4.tr g1) g2 (fun m m1 z => ?_)
          by_cases e : (m : Int) = p
          · rw [show m = p.toNat by omega] at z; exact h_14 z
          · exact h5 m (by omega) z
        refine s_iload_n 18 dX3_fewestFor_17 rfl rfl ?_
        refine s_iret dX3_fewestFor_18 rfl rfl ?_
        have e : splV (SeenP r) set = p := SplV.v (Or.inr ⟨h2, h_14, h5⟩)
        rw [e] at h
        exact h I2 (h4.tr g1) g2
  refine s_iconst 1 dX3_fewestFor_0 rfl ?_
  refine s_istore_n (ls' := [_, _, _]) 2 dX3_fewestFor_1 rfl (Nat.le_of_ble_eq_true rfl) rfl rfl ?_
  exact loop 10 0 I (by omega) (by omega) (by omega) Eqo.rf hW (fun m z => by omega)
