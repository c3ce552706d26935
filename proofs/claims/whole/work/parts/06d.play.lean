/-! CASTING: playerOf, how many casts -/
theorem few_b {G : Int → Prop} {n : Nat} (hn : 1 ≤ n ∧ n ≤ 7) : fewV G n = -2 ∨ (0 ≤ fewV G n ∧ fewV G n ≤ 7) := by
  rcases few_all (G := G) (n := n) with ⟨a, b⟩ | ⟨P, b, S, h1, h2, h3, h4, h5, h6⟩
  · exact Or.inl a
  · have gb : GL G n (vL b) := valR_n (by rw [← h2]; exact h3)
    have hb := rgs_b hn (l := b) (by rw [h1]; simp)
    have := plF_b (v := vL b) (n := (n : Int)) hb n (Int.le_refl _)
    rw [h2, valR_t gb]
    exact Or.inr this
theorem bestX_n {G : Int → Prop} {n : Nat} (h : fewV G n = -2) {i : Int} (a : 0 ≤ i) (b : i < n) : bestX (valR G n) (rgs n) i = -2 := by
  have := (few_all (G := G) (n := n)).best.2 i a b
  rw [this, if_pos h]
def CasP (I : MI) (r : F1) (G : Int → Prop) : Prop := (I 107 4 = 0 ∧ ∀ p, 0 ≤ p → p < r 4 → bestX (valR G (r 4).toNat) (rgs (r 4).toNat) p = -2) ∨ (I 107 4 = 1 ∧ ∀ p, 0 ≤ p → p < r 4 → I 109 p = bestX (valR G (r 4).toNat) (rgs (r 4).toNat) p)
set_option maxHeartbeats 4000000 in
theorem c_X1_playerOf {E : ET} {I : MI} {L : ML} {R : MR} {Q : Option AV → MI → ML → MR → Prop} {P : Nat} {r sc : F1} {rd g cut p : Int} (hT : Topo R) (hP : isP P) (hNP : R 85 1 = some P) (hr : WFr r) (hsc : Perm (r 5) sc) (hg : 0 ≤ g ∧ g ≤ 99) (hW : GW3 85 P r rd g sc cut I) (hC : I 107 3 = I 85 12 → CasP I r (MayP r rd g sc cut)) (hp : 0 ≤ p ∧ p < r 4) (h : ∀ I', Eqo [86, 107, 108, 109] I I' → GW3 85 P r rd g sc cut I' → I' 107 3 = I 85 12 → (∀ k, k ≠ 3 → k ≠ 4 → I' 107 k = I 107 k) → CasP I' r (MayP r rd g sc cut) → Q (some (vi (bestX (valR (MayP r rd g sc cut) (r 4).toNat) (rgs (r 4).toNat) p))) I' L R) : CT E M_X1_playerOf 161 yX1_playerOf [(vr (107)), (vi (p))] I L R Q := by
  refine CT_of rfl rfl (fun h => by cases h) (Nat.le_of_ble_eq_true rfl) (fun X => ?_)
  show V X _ z0 0 [some (vr (107)), some (vi (p)), none] [] I L R _
  have e0 := hr.1
  have hp3 : P = 3 ∨ P = 39 := hP
  have hn : 1 ≤ (r 4).toNat ∧ (r 4).toNat ≤ 7 := by omega
  have en : (((r 4).toNat : Nat) : Int) = r 4 := by omega
  have hfs := few_spl (G := MayP r rd g sc cut) hn
  have hfb := few_b (G := MayP r rd g sc cut) hn
  rw [en] at hfs
  have fin : ∀ (I2 : MI) (w : Option AV), Eqo [86, 107, 108, 109] I I2 → GW3 85 P r rd g sc cut I2 → I2 107 3 = I 85 12 → (∀ k, k ≠ 3 → k ≠ 4 → I2 107 k = I 107 k) → CasP I2 r (MayP r rd g sc cut) → V X M_X1_playerOf z0 73 [some (vr (107)), some (vi (p)), w] [] (I2) L R (RT X M_X1_playerOf Q) := by
    intro I2 w g1 g2 g3 g4 g5
    have hh := h I2 g1 g2 g3 g4 g5
    rcases g5 with ⟨a, b⟩ | ⟨a, b⟩
    · rw [b p hp.1 hp.2] at hh
      refine s_aload_n 74 dX1_playerOf_73 rfl rfl ?_
      refine s_getI 77 dX1_playerOf_74 rfl fl_X1_22 (fun _ _ _ _ => rfl) sh_107 (Nat.le_of_ble_eq_true rfl) (fun r_74 => ?_)
      rw [a]
      refine s_if_eq 99 80 dX1_playerOf_77 rfl rfl (by first | omega | exact bI_r _ | exact iI_r _) (fun h_77 => ?_) (fun h_77 => by exfalso; omega)
      refine s_bipush 101 dX1_playerOf_99 rfl (by decide) ?_
      refine s_iret dX1_playerOf_101 rfl rfl ?_
      exact hh
    · rw [← b p hp.1 hp.2] at hh
      refine s_aload_n 74 dX1_playerOf_73 rfl rfl ?_
      refine s_getI 77 dX1_playerOf_74 rfl fl_X1_22 (fun _ _ _ _ => rfl) sh_107 (Nat.le_of_ble_eq_true rfl) (fun r_74 => ?_)
      rw [a]
      refine s_if_eq 99 80 dX1_playerOf_77 rfl rfl (by first | omega | exact bI_r _ | exact iI_r _) (fun h_77 => by exfalso; omega) (fun h_77 => ?_)
      refine s_iload_n 81 dX1_playerOf_80 rfl rfl ?_
      refine s_if_lt 99 84 dX1_playerOf_81 rfl rfl (by first | omega | exact bI_r _ | exact iI_r _) (fun h_81 => by exfalso; omega) (fun h_81 => ?_)
      refine s_iload_n 85 dX1_playerOf_84 rfl rfl ?_
      refine s_bipush 87 dX1_playerOf_85 rfl (by decide) ?_
      refine s_icmp_ge 99 90 dX1_playerOf_87 rfl rfl (by first | omega | exact bI_r _ | exact iI_r _) (by first | omega | exact bI_r _ | exact iI_r _) (fun h_87 => by exfalso; omega) (fun h_87 => ?_)
      refine s_aload_n 91 dX1_playerOf_90 rfl rfl ?_
      refine s_getR 94 dX1_playerOf_91 rfl fl_X1_15 (fun _ _ _ _ => rfl) (T_X1_players hT) sh_107 (Nat.le_of_ble_eq_true rfl) ?_
      refine s_iload_n 95 dX1_playerOf_94 rfl rfl ?_
      refine s_iald 96 dX1_playerOf_95 rfl sh_109 (Nat.le_of_ble_eq_true rfl) (by omega) (by omega) (fun r_95 => ?_)
      refine s_goto 101 dX1_playerOf_96 rfl ?_
      refine s_iret dX1_playerOf_101 rfl rfl ?_
      exact hh
  have st70 : ∀ (I2 : MI) (w : Option AV) (b : Int), b = 0 ∨ b = 1 → Eqo [86, 107, 108, 109] I I2 → GW3 85 P r rd g sc cut I2 → I2 107 3 = I 85 12 → (∀ k, k ≠ 3 → k ≠ 4 → I2 107 k = I 107 k) → CasP (up I2 107 4 b) r (MayP r rd g sc cut) → V X M_X1_playerOf z0 70 [some (vr (107)), some (vi (p)), w] [(vi (b)), (vr (107))] (I2) L R (RT X M_X1_playerOf Q) := by
    intro I2 w b hb g1 g2 g3 g4 g5
    rcases hb with rfl | rfl
    · skip
      refine s_putI 73 dX1_playerOf_70 rfl fl_X1_22 (fun _ => x_nz (by omega)) (fun _ => rfl) (fun _ _ _ _ => rfl) sh_107 (Nat.le_of_ble_eq_true rfl) (by first | omega | exact bI_r _ | exact iI_r _) ?_
      exact fin _ _ (g1.st (by simp)) (g2.eq hr (fun c hc => up_ne (by omega))) (by rw [upn (by decide)]; exact g3) (fun k k1 k2 => by rw [upn k2]; exact g4 k k1 k2) g5
    · skip
      refine s_putI 73 dX1_playerOf_70 rfl fl_X1_22 (fun _ => x_nz (by omega)) (fun _ => rfl) (fun _ _ _ _ => rfl) sh_107 (Nat.le_of_ble_eq_true rfl) (by first | omega | exact bI_r _ | exact iI_r _) ?_
      exact fin _ _ (g1.st (by simp)) (g2.eq hr (fun c hc => up_ne (by omega))) (by rw [upn (by decide)]; exact g3) (fun k k1 k2 => by rw [upn k2]; exact g4 k k1 k2) g5
  by_cases hs : I 107 3 = I 85 12
  · skip
    refine s_aload_n 1 dX1_playerOf_0 rfl rfl ?_
    refine s_getI 4 dX1_playerOf_1 rfl fl_X1_18 (fun _ _ _ _ => rfl) sh_107 (Nat.le_of_ble_eq_true rfl) (fun r_1 => ?_)
    refine s_aload_n 5 dX1_playerOf_4 rfl rfl ?_
    refine s_getR 8 dX1_playerOf_5 rfl fl_X1_36 (fun _ _ _ _ => rfl) (T_X1_night hT) sh_107 (Nat.le_of_ble_eq_true rfl) ?_
    refine s_getI 11 dX1_playerOf_8 rfl fl_X1_40 (fun _ _ _ _ => rfl) (isN_sh isN_85) (isN_lt isN_85) (fun r_8 => ?_)
    refine s_icmp_eq 73 14 dX1_playerOf_11 rfl rfl (by first | omega | exact bI_r _ | exact iI_r _) (by first | omega | exact bI_r _ | exact iI_r _) (fun h_11 => ?_) (fun h_11 => by exfalso; omega)
    exact fin I _ Eqo.rf hW hs (fun k _ _ => rfl) (hC hs)
  · have W1 : GW3 85 P r rd g sc cut (up I 107 3 (I 85 12)) := hW.eq hr (fun c hc => up_ne (by omega))
    have a7 := allF_7 (n := r 4) ⟨by omega, by omega⟩
    refine s_aload_n 1 dX1_playerOf_0 rfl rfl ?_
    refine s_getI 4 dX1_playerOf_1 rfl fl_X1_18 (fun _ _ _ _ => rfl) sh_107 (Nat.le_of_ble_eq_true rfl) (fun r_1 => ?_)
    refine s_aload_n 5 dX1_playerOf_4 rfl rfl ?_
    refine s_getR 8 dX1_playerOf_5 rfl fl_X1_36 (fun _ _ _ _ => rfl) (T_X1_night hT) sh_107 (Nat.le_of_ble_eq_true rfl) ?_
    refine s_getI 11 dX1_playerOf_8 rfl fl_X1_40 (fun _ _ _ _ => rfl) (isN_sh isN_85) (isN_lt isN_85) (fun r_8 => ?_)
    refine s_icmp_eq 73 14 dX1_playerOf_11 rfl rfl (by first | omega | exact bI_r _ | exact iI_r _) (by first | omega | exact bI_r _ | exact iI_r _) (fun h_11 => by exfalso; omega) (fun h_11 => ?_)
    refine s_aload_n 15 dX1_playerOf_14 rfl rfl ?_
    refine s_aload_n 16 dX1_playerOf_15 rfl rfl ?_
    refine s_getR 19 dX1_playerOf_16 rfl fl_X1_36 (fun _ _ _ _ => rfl) (T_X1_night hT) sh_107 (Nat.le_of_ble_eq_true rfl) ?_
    refine s_getI 22 dX1_playerOf_19 rfl fl_X1_40 (fun _ _ _ _ => rfl) (isN_sh isN_85) (isN_lt isN_85) (fun r_19 => ?_)
    refine s_putI 25 dX1_playerOf_22 rfl fl_X1_18 (fun _ => rfl) (fun _ => rfl) (fun _ _ _ _ => rfl) sh_107 (Nat.le_of_ble_eq_true rfl) (by first | omega | exact bI_r _ | exact iI_r _) ?_
    refine s_aload_n 26 dX1_playerOf_25 rfl rfl ?_
    refine s_getR 29 dX1_playerOf_26 rfl fl_X1_36 (fun _ _ _ _ => rfl) (T_X1_night hT) sh_107 (Nat.le_of_ble_eq_true rfl) ?_
    refine s_aload_n 30 dX1_playerOf_29 rfl rfl ?_
    refine s_getR 33 dX1_playerOf_30 rfl fl_X1_36 (fun _ _ _ _ => rfl) (T_X1_night hT) sh_107 (Nat.le_of_ble_eq_true rfl) ?_
    refine s_callV0 (M' := M_X4_allParts) (as := []) 36 dX1_playerOf_33 rfl cw_X1_45 rfl rfl (isN_sh isN_85) rfl (by decide) (isN_lt isN_85) (Nat.le_of_ble_eq_true rfl) (Nat.le_of_ble_eq_true rfl) (Nat.le_of_ble_eq_true rfl) ⟨rfl, rfl, rfl⟩ ?_
    refine c_X4_allParts hT isN_85 hP hNP W1.1 ?_
    refine s_callU0 (M' := M_X3_fewestFor) (as := [_]) 39 dX1_playerOf_36 rfl cw_X1_49_3 rfl rfl (isN_sh isN_85) rfl (by decide) (isN_lt isN_85) (Nat.le_of_ble_eq_true rfl) (Nat.le_of_ble_eq_true rfl) (Nat.le_of_ble_eq_true rfl) ⟨rfl, rfl, rfl⟩ ?_
    refine c_X3_fewestFor3 hT isN_85 hP hNP hr hsc hg W1 a7 (fun I2 k1 k2 => ?_)
    rw [hfs]
    refine s_istore_n (ls' := [_, _, _]) 40 dX1_playerOf_39 rfl (Nat.le_of_ble_eq_true rfl) rfl rfl ?_
    refine s_aload_n 41 dX1_playerOf_40 rfl rfl ?_
    refine s_getR 44 dX1_playerOf_41 rfl fl_X1_11 (fun _ _ _ _ => rfl) (T_X1_groups hT) sh_107 (Nat.le_of_ble_eq_true rfl) ?_
    refine s_iconst 45 dX1_playerOf_44 rfl ?_
    refine s_callS0 (M' := M_J7_fill_53178) (as := [_, _]) 48 dX1_playerOf_45 rfl cw_X1_53 rfl rfl (Nat.le_of_ble_eq_true rfl) (Nat.le_of_ble_eq_true rfl) (Nat.le_of_ble_eq_true rfl) ⟨rfl, rfl, rfl⟩ ?_
    refine c_fill sh_108 (by decide) (by decide) (by decide) ?_
    have q2 : Eqo [86, 107, 108, 109] I (flI I2 108 7 0) := fun c hc => by rw [flI_n (fun e => hc (by rw [e]; simp)), k1 c (fun e => hc (by rw [List.mem_singleton.mp e]; simp)), up_ne (fun e => hc (by rw [e]; simp))]
    have W2 : GW3 85 P r rd g sc cut (flI I2 108 7 0) := k2.eq hr (fun c hc => flI_n (by omega))
    have s2 : flI I2 108 7 0 107 3 = I 85 12 := by rw [flI_n (by decide), k1 107 (by decide), ups]
    have o2 : ∀ k, k ≠ 3 → k ≠ 4 → flI I2 108 7 0 107 k = I 107 k := fun k x1 _ => by rw [flI_n (by decide), k1 107 (by decide), upn x1]
    refine s_aload_n 49 dX1_playerOf_48 rfl rfl ?_
    refine s_iload_n 50 dX1_playerOf_49 rfl rfl ?_
    refine s_bipush 52 dX1_playerOf_50 rfl (by decide) ?_
    refine s_icmp_eq 69 55 dX1_playerOf_52 rfl rfl (by first | omega | exact bI_r _ | exact iI_r _) (by first | omega | exact bI_r _ | exact iI_r _) (fun h_52 => ?_) (fun h_52 => ?_)
    · skip
      refine s_iconst 70 dX1_playerOf_69 rfl ?_
      exact st70 _ _ 0 (Or.inl rfl) q2 W2 s2 o2 (Or.inl ⟨ups, fun q q1 q2 => bestX_n h_52 q1 (by omega)⟩)
    refine s_aload_n 56 dX1_playerOf_55 rfl rfl ?_
    refine s_iconst 57 dX1_playerOf_56 rfl ?_
    refine s_iconst 58 dX1_playerOf_57 rfl ?_
    refine s_iload_n 59 dX1_playerOf_58 rfl rfl ?_
    refine s_callV0 (M' := (M_X1_gives 8)) (as := [_, _, _]) 62 dX1_playerOf_59 rfl cw_X1_59 rfl rfl sh_107 rfl (by decide) (Nat.le_of_ble_eq_true rfl) (by first | exact Nat.le_of_ble_eq_true rfl | (simp only [mrk]; omega)) (Nat.le_of_ble_eq_true rfl) (Nat.le_of_ble_eq_true rfl) ⟨rfl, rfl, rfl⟩ ?_
    refine c_X1_gives 8 (l := []) hT hP hNP hr hsc hg W2 (by show (0 : Int) ≤ r 4; omega) (fun j j1 j2 => by have j2 : j < 0 := j2; omega) (fun j j1 j2 => by have j2 : j < 0 := j2; omega) (fun q q1 q2 => flI_e ⟨q1, q2⟩) (by omega) (by show r 4 - 0 < 8; omega) (fun I3 x1 x2 => ?_)
    obtain ⟨b, b1, b2⟩ := gives_best h_52
    have eb : (r 4 - (([] : List Int).length : Int)).toNat = (r 4).toNat := by show (r 4 - 0).toNat = _; omega
    rw [eb, b1]
    refine ⟨fun l' y1 y2 => ?_, fun y1 => by cases y1⟩
    cases y1
    refine s_if_eq 69 65 dX1_playerOf_62 rfl rfl (by omega) (fun h_62 => by exfalso; omega) (fun h_62 => ?_)
    refine s_iconst 66 dX1_playerOf_65 rfl ?_
    refine s_goto 70 dX1_playerOf_66 rfl ?_
    exact st70 _ _ 1 (Or.inr rfl) (q2.tr (x1.mo (by simp))) x2 (by rw [x1 107 (by decide)]; exact s2) (fun k z1 z2 => by rw [x1 107 (by decide)]; exact o2 k z1 z2) (Or.inr ⟨ups, fun q q1 q2 => by rw [up_ne (by decide), y2 q q1 q2, b2 q q1 (by omega)]⟩)
def smI (f : Int → Int) : Nat → Int
  | 0 => 0
  | k + 1 => smI f k + f k
theorem smI_z {f : Int → Int} {a : Nat} : ∀ d : Nat, (∀ k : Int, a ≤ k → k < (a + d : Nat) → f k = 0) → smI f (a + d) = smI f a
  | 0, _ => rfl
  | d + 1, h => by
    show smI f (a + d) + f ((a + d : Nat) : Int) = _
    rw [h _ (by omega) (by omega), smI_z d (fun k x y => h k x (by omega))]
    omega
/-- in how many ways a set falls apart -/
noncomputable def wyF (G : Int → Prop) : Nat → Int → Int
  | 0, s => pick (G s) 1 0
  | c + 1, s => smI (fun x => pick (sub x s ∧ G x) (wyF G c (ixor s x)) 0) (s.toNat + 1)
theorem ixor_0 {x : Int} (h : -2147483648 ≤ x ∧ x ≤ 2147483647) : ixor x 0 = x := set_ext (iI_r _) h (fun k k1 k2 => by
  rw [has_xor ⟨k1, k2⟩]
  have := has_0 ⟨k1, k2⟩
  exact ⟨fun z => Classical.byContradiction (fun y => z ⟨fun w => absurd w y, fun w => absurd w this⟩), fun z w => this (w.mp z)⟩)
theorem sub_x {s o : Int} (hs : 0 ≤ s ∧ s ≤ 127) (h : sub o s) : 0 ≤ ixor s o ∧ ixor s o ≤ 127 := by
  have := set_lt (n := 7) (x := ixor s o) (by decide) (iI_r _) (fun k k1 k2 z => by
    have k3 : (7 : Int) ≤ k := by omega
    rw [has_xor ⟨by omega, k2⟩] at z
    have hn : ¬ hasI s k := has_lt (n := 7) (by decide) ⟨hs.1, by omega⟩ ⟨k3, k2⟩
    exact z ⟨fun w => absurd w hn, fun w => absurd (sub_has h ⟨by omega, k2⟩ w) hn⟩)
  omega
set_option maxHeartbeats 4000000 in
theorem c_X1_ways (d : Nat) : ∀ {E : ET} {I : MI} {L : ML} {R : MR} {Q : Option AV → MI → ML → MR → Prop} {P : Nat} {r sc : F1} {rd g cut rest m : Int} (hT : Topo R) (hP : isP P) (hNP : R 85 1 = some P) (hr : WFr r) (hsc : Perm (r 5) sc) (hg : 0 ≤ g ∧ g ≤ 99) (hW : GW3 85 P r rd g sc cut I) (hr0 : 0 ≤ rest ∧ rest ≤ 127) (hm : 1 ≤ m) (hd : m ≤ (d : Int)) (hm3 : m ≤ 3) (h : ∀ I', Eqo [86] I I' → GW3 85 P r rd g sc cut I' → Q (some (vi (wyF (MayP r rd g sc cut) (m - 1).toNat rest))) I' L R), CT E (M_X1_ways d) 161 yX1_ways [(vr (107)), (vi (rest)), (vi (m))] I L R Q := by
  induction d with
  | zero => intros; exfalso; omega
  | succ d ih =>
  intro E I L R Q P r sc rd g cut rest m hT hP hNP hr hsc hg hW hr0 hm hd hm3 h
  refine CT_of rfl rfl (fun h => by cases h) (Nat.le_of_ble_eq_true rfl) (fun X => ?_)
  show V X _ z0 0 [some (vr (107)), some (vi (rest)), some (vi (m)), none, none] [] I L R _
  by_cases hm1 : m = 1
  · subst hm1
    have e1 : wyF (MayP r rd g sc cut) ((1 : Int) - 1).toNat rest = pick (MayP r rd g sc cut rest) 1 0 := rfl
    rw [e1] at h
    refine s_iload_n 1 dX1_ways_0 rfl rfl ?_
    refine s_iconst 2 dX1_ways_1 rfl ?_
    refine s_icmp_gt 22 5 dX1_ways_2 rfl rfl (by first | omega | exact bI_r _ | exact iI_r _) (by first | omega | exact bI_r _ | exact iI_r _) (fun h_2 => by exfalso; omega) (fun h_2 => ?_)
    refine s_aload_n 6 dX1_ways_5 rfl rfl ?_
    refine s_getR 9 dX1_ways_6 rfl fl_X1_36 (fun _ _ _ _ => rfl) (T_X1_night hT) sh_107 (Nat.le_of_ble_eq_true rfl) ?_
    refine s_iload_n 10 dX1_ways_9 rfl rfl ?_
    refine s_callU0 (M' := M_X3_good) (as := [_]) 13 dX1_ways_10 rfl cw_X1_76_3 rfl rfl (isN_sh isN_85) rfl (by decide) (isN_lt isN_85) (by first | exact Nat.le_of_ble_eq_true rfl | (simp only [mrk]; omega)) (Nat.le_of_ble_eq_true rfl) (Nat.le_of_ble_eq_true rfl) ⟨rfl, rfl, rfl⟩ ?_
    refine c_X3_good3 hT isN_85 hP hNP hr hsc hg hW ⟨by omega, by omega⟩ (fun I2 g1 g2 => ?_)
    refine s_ifb_eq 20 16 dX1_ways_13 rfl rfl (fun h_13 => ?_) (fun h_13 => ?_)
    · skip
      refine s_iconst 21 dX1_ways_20 rfl ?_
      refine s_iret dX1_ways_21 rfl rfl ?_
      first | (have hh := h I2 g1 g2; rw [pick_t h_13.2] at hh; exact hh) | (have hh := h I2 g1 g2; rw [pick_f (fun z => h_13 ⟨⟨by omega, by omega⟩, z⟩)] at hh; exact hh)
    refine s_iconst 17 dX1_ways_16 rfl ?_
    refine s_goto 21 dX1_ways_17 rfl ?_
    refine s_iret dX1_ways_21 rfl rfl ?_
    first | (have hh := h I2 g1 g2; rw [pick_t h_13.2] at hh; exact hh) | (have hh := h I2 g1 g2; rw [pick_f (fun z => h_13 ⟨⟨by omega, by omega⟩, z⟩)] at hh; exact hh)
  · have em : (m - 1).toNat = (m - 1 - 1).toNat + 1 := by omega
    rw [em] at h
    have rec0 : ∀ {I2 : MI} {Q' : QT} {x : Int}, GW3 85 P r rd g sc cut I2 → (0 ≤ x ∧ x ≤ 127) → (∀ I', Eqo [86] I2 I' → GW3 85 P r rd g sc cut I' → Q' (some (vi (wyF (MayP r rd g sc cut) (m - 1 - 1).toNat x))) I' L R) → CT (xE X) (M_X1_ways d) 161 yX1_ways [vr 107, vi x, vi (m - 1)] I2 L R Q' := fun w hx hQ => ih hT hP hNP hr hsc hg w hx (by omega) (by omega) (by omega) hQ
    obtain ⟨c9, ec9⟩ : ∃ c9, c9 = (m - 1 - 1).toNat := ⟨_, rfl⟩
    rw [← ec9] at h rec0
    obtain ⟨f9, ef⟩ : ∃ f9 : Int → Int, f9 = fun x => pick (sub x rest ∧ MayP r rd g sc cut x) (wyF (MayP r rd g sc cut) c9 (ixor rest x)) 0 := ⟨_, rfl⟩
    have ew : wyF (MayP r rd g sc cut) (c9 + 1) rest = smI f9 (rest.toNat + 1) := by rw [ef]; rfl
    rw [ew] at h
    have f0 : ∀ x, ¬ (sub x rest ∧ MayP r rd g sc cut x) → f9 x = 0 := fun x hx => by rw [ef]; exact pick_f hx
    have f1 : ∀ x, sub x rest → MayP r rd g sc cut x → f9 x = wyF (MayP r rd g sc cut) c9 (ixor rest x) := fun x hx hy => by rw [ef]; exact pick_t ⟨hx, hy⟩
    have s0 : sub 0 rest := sub_of (by decide) (fun k k1 k2 z => absurd z (has_0 ⟨k1, k2⟩))
    have loop : ∀ (f : Nat) (x sum : Int) (I1 : MI), x < (f : Int) → 0 ≤ x → sub x rest → Eqo [86] I I1 → GW3 85 P r rd g sc cut I1 → sum = f9 0 + smI f9 (rest.toNat + 1) - smI f9 (x.toNat + 1) → V X (M_X1_ways (d + 1)) z0 49 [some (vr 107), some (vi rest), some (vi m), some (vi sum), some (vi x)] [] I1 L R (RT X (M_X1_ways (d + 1)) Q) := by
      intro f
      induction f with
      | zero => intro x sum I1 h1 h2; omega
      | succ f ih2 =>
        intro x sum I1 h1 h2 h3 h4 hW1 h5
        have xl := sub_le hr0 h3
        by_cases hx : x = 0
        · subst hx
          have e : sum = smI f9 (rest.toNat + 1) := by
            rw [h5, show smI f9 ((0 : Int).toNat + 1) = 0 + f9 0 from rfl]; omega
          subst e
          refine s_iload 51 dX1_ways_49 rfl rfl ?_
          refine s_if_le 91 54 dX1_ways_51 rfl rfl (by first | omega | exact bI_r _ | exact iI_r _) (fun h_51 => ?_) (fun h_51 => by exfalso; omega)
          refine s_iload_n 92 dX1_ways_91 rfl rfl ?_
          refine s_iret dX1_ways_92 rfl rfl ?_
          exact h I1 h4 hW1
        · have nx := sub_next hr0 ⟨by omega, by omega⟩ h3
          have gap : smI f9 (x.toNat + 1) = smI f9 ((iand (x - 1) rest).toNat + 1) + f9 x := by
            have e1 : smI f9 (x.toNat + 1) = smI f9 x.toNat + f9 x := by
              show smI f9 x.toNat + f9 (x.toNat : Int) = _
              rw [show ((x.toNat : Nat) : Int) = x by omega]
            have e2 := smI_z (f := f9) (a := (iand (x - 1) rest).toNat + 1) (x.toNat - ((iand (x - 1) rest).toNat + 1)) (fun k k1 k2 => f0 k (fun z => by
              have := nx.2.2.2.2.2.2 k (by omega) (by omega) z.1
              omega))
            rw [show (iand (x - 1) rest).toNat + 1 + (x.toNat - ((iand (x - 1) rest).toNat + 1)) = x.toNat by omega] at e2
            rw [e1, e2]
          have xr := sub_x hr0 h3
          refine s_iload 51 dX1_ways_49 rfl rfl ?_
          refine s_if_le 91 54 dX1_ways_51 rfl rfl (by first | omega | exact bI_r _ | exact iI_r _) (fun h_51 => by exfalso; omega) (fun h_51 => ?_)
          refine s_aload_n 55 dX1_ways_54 rfl rfl ?_
          refine s_getR 58 dX1_ways_55 rfl fl_X1_36 (fun _ _ _ _ => rfl) (T_X1_night hT) sh_107 (Nat.le_of_ble_eq_true rfl) ?_
          refine s_iload 60 dX1_ways_58 rfl rfl ?_
          refine s_callU0 (M' := M_X3_good) (as := [_]) 63 dX1_ways_60 rfl cw_X1_76_3 rfl rfl (isN_sh isN_85) rfl (by decide) (isN_lt isN_85) (by first | exact Nat.le_of_ble_eq_true rfl | (simp only [mrk]; omega)) (Nat.le_of_ble_eq_true rfl) (Nat.le_of_ble_eq_true rfl) ⟨rfl, rfl, rfl⟩ ?_
          refine c_X3_good3 hT isN_85 hP hNP hr hsc hg hW1 ⟨by omega, by omega⟩ (fun I2 g1 g2 => ?_)
          refine s_ifb_eq 80 66 dX1_ways_63 rfl rfl (fun h_63 => ?_) (fun h_63 => ?_)
          · skip
            refine s_iload 82 dX1_ways_80 rfl rfl ?_
            refine s_iconst 83 dX1_ways_82 rfl ?_
            refine s_isub 84 dX1_ways_83 rfl ?_
            refine s_iload_n 85 dX1_ways_84 rfl rfl ?_
            refine s_iand 86 dX1_ways_85 rfl ?_
            refine s_istore (ls' := [_, _, _, _, _]) 88 dX1_ways_86 rfl (Nat.le_of_ble_eq_true rfl) rfl rfl ?_
            refine s_goto 49 dX1_ways_88 rfl ?_
            first | exact ih2 _ _ I3 (by omega) nx.1 nx.2.2.1 ((h4.tr g1).tr g3) g4 (by rw [← f1 x h3 h_63.2, h5, gap]; omega) | exact ih2 _ _ I2 (by omega) nx.1 nx.2.2.1 (h4.tr g1) g2 (by have := f0 x (fun z => h_63 ⟨⟨by omega, by omega⟩, z.2⟩); rw [h5, gap]; omega)
          refine s_iload_n 67 dX1_ways_66 rfl rfl ?_
          refine s_aload_n 68 dX1_ways_67 rfl rfl ?_
          refine s_iload_n 69 dX1_ways_68 rfl rfl ?_
          refine s_iload 71 dX1_ways_69 rfl rfl ?_
          refine s_ixor 72 dX1_ways_71 rfl ?_
          refine s_iload_n 73 dX1_ways_72 rfl rfl ?_
          refine s_iconst 74 dX1_ways_73 rfl ?_
          refine s_isub 75 dX1_ways_74 rfl ?_
          refine s_callV0 (M' := (M_X1_ways d)) (as := [_, _]) 78 dX1_ways_75 rfl cw_X1_79 rfl rfl sh_107 rfl (by decide) (Nat.le_of_ble_eq_true rfl) (by first | exact Nat.le_of_ble_eq_true rfl | (simp only [mrk]; omega)) (Nat.le_of_ble_eq_true rfl) (Nat.le_of_ble_eq_true rfl) ⟨rfl, rfl, rfl⟩ ?_
          refine rec0 g2 xr (fun I3 g3 g4 => ?_)
          refine s_iadd 79 dX1_ways_78 rfl ?_
          refine s_istore_n (ls' := [_, _, _, _, _]) 80 dX1_ways_79 rfl (Nat.le_of_ble_eq_true rfl) rfl rfl ?_
          refine s_iload 82 dX1_ways_80 rfl rfl ?_
          refine s_iconst 83 dX1_ways_82 rfl ?_
          refine s_isub 84 dX1_ways_83 rfl ?_
          refine s_iload_n 85 dX1_ways_84 rfl rfl ?_
          refine s_iand 86 dX1_ways_85 rfl ?_
          refine s_istore (ls' := [_, _, _, _, _]) 88 dX1_ways_86 rfl (Nat.le_of_ble_eq_true rfl) rfl rfl ?_
          refine s_goto 49 dX1_ways_88 rfl ?_
          first | exact ih2 _ _ I3 (by omega) nx.1 nx.2.2.1 ((h4.tr g1).tr g3) g4 (by rw [← f1 x h3 h_63.2, h5, gap]; omega) | exact ih2 _ _ I2 (by omega) nx.1 nx.2.2.1 (h4.tr g1) g2 (by have := f0 x (fun z => h_63 ⟨⟨by omega, by omega⟩, z.2⟩); rw [h5, gap]; omega)
    refine s_iload_n 1 dX1_ways_0 rfl rfl ?_
    refine s_iconst 2 dX1_ways_1 rfl ?_
    refine s_icmp_gt 22 5 dX1_ways_2 rfl rfl (by first | omega | exact bI_r _ | exact iI_r _) (by first | omega | exact bI_r _ | exact iI_r _) (fun h_2 => ?_) (fun h_2 => by exfalso; omega)
    refine s_aload_n 23 dX1_ways_22 rfl rfl ?_
    refine s_getR 26 dX1_ways_23 rfl fl_X1_36 (fun _ _ _ _ => rfl) (T_X1_night hT) sh_107 (Nat.le_of_ble_eq_true rfl) ?_
    refine s_iconst 27 dX1_ways_26 rfl ?_
    refine s_callU0 (M' := M_X3_good) (as := [_]) 30 dX1_ways_27 rfl cw_X1_76_3 rfl rfl (isN_sh isN_85) rfl (by decide) (isN_lt isN_85) (by first | exact Nat.le_of_ble_eq_true rfl | (simp only [mrk]; omega)) (Nat.le_of_ble_eq_true rfl) (Nat.le_of_ble_eq_true rfl) ⟨rfl, rfl, rfl⟩ ?_
    refine c_X3_good3 hT isN_85 hP hNP hr hsc hg hW ⟨by omega, by omega⟩ (fun I2 g1 g2 => ?_)
    refine s_ifb_eq 44 33 dX1_ways_30 rfl rfl (fun h_30 => ?_) (fun h_30 => ?_)
    · skip
      refine s_iconst 45 dX1_ways_44 rfl ?_
      refine s_istore_n (ls' := [_, _, _, _, _]) 46 dX1_ways_45 rfl (Nat.le_of_ble_eq_true rfl) rfl rfl ?_
      refine s_iload_n 47 dX1_ways_46 rfl rfl ?_
      refine s_istore (ls' := [_, _, _, _, _]) 49 dX1_ways_47 rfl (Nat.le_of_ble_eq_true rfl) rfl rfl ?_
      first | exact loop 129 rest _ I3 (by omega) hr0.1 (chk_self hr0) (g1.tr g3) g4 (by rw [f1 0 s0 h_30.2, ixor_0 (by omega)]; omega) | exact loop 129 rest _ I2 (by omega) hr0.1 (chk_self hr0) g1 g2 (by rw [f0 0 (fun z => h_30 ⟨⟨by omega, by omega⟩, z.2⟩)]; omega)
    refine s_aload_n 34 dX1_ways_33 rfl rfl ?_
    refine s_iload_n 35 dX1_ways_34 rfl rfl ?_
    refine s_iload_n 36 dX1_ways_35 rfl rfl ?_
    refine s_iconst 37 dX1_ways_36 rfl ?_
    refine s_isub 38 dX1_ways_37 rfl ?_
    refine s_callV0 (M' := (M_X1_ways d)) (as := [_, _]) 41 dX1_ways_38 rfl cw_X1_79 rfl rfl sh_107 rfl (by decide) (Nat.le_of_ble_eq_true rfl) (by first | exact Nat.le_of_ble_eq_true rfl | (simp only [mrk]; omega)) (Nat.le_of_ble_eq_true rfl) (Nat.le_of_ble_eq_true rfl) ⟨rfl, rfl, rfl⟩ ?_
    refine rec0 g2 hr0 (fun I3 g3 g4 => ?_)
    refine s_goto 45 dX1_ways_41 rfl ?_
    refine s_istore_n (ls' := [_, _, _, _, _]) 46 dX1_ways_45 rfl (Nat.le_of_ble_eq_true rfl) rfl rfl ?_
    refine s_iload_n 47 dX1_ways_46 rfl rfl ?_
    refine s_istore (ls' := [_, _, _, _, _]) 49 dX1_ways_47 rfl (Nat.le_of_ble_eq_true rfl) rfl rfl ?_
    first | exact loop 129 rest _ I3 (by omega) hr0.1 (chk_self hr0) (g1.tr g3) g4 (by rw [f1 0 s0 h_30.2, ixor_0 (by omega)]; omega) | exact loop 129 rest _ I2 (by omega) hr0.1 (chk_self hr0) g1 g2 (by rw [f0 0 (fun z => h_30 ⟨⟨by omega, by omega⟩, z.2⟩)]; omega)
set_option maxHeartbeats 4000000 in
theorem c_X1_castsFor {E : ET} {I : MI} {L : ML} {R : MR} {Q : Option AV → MI → ML → MR → Prop} {P : Nat} {r sc : F1} {rd g cut m : Int} (hT : Topo R) (hP : isP P) (hNP : R 85 1 = some P) (hr : WFr r) (hsc : Perm (r 5) sc) (hg : 0 ≤ g ∧ g ≤ 99) (hW : GW3 85 P r rd g sc cut I) (hm : 1 ≤ m ∧ m ≤ 3) (h : ∀ I', Eqo [86] I I' → GW3 85 P r rd g sc cut I' → Q (some (vi (wyF (MayP r rd g sc cut) (m - 1).toNat (allF (r 4))))) I' L R) : CT E M_X1_castsFor 161 yX1_castsFor [(vr (107)), (vi (m))] I L R Q := by
  refine CT_of rfl rfl (fun h => by cases h) (Nat.le_of_ble_eq_true rfl) (fun X => ?_)
  show V X _ z0 0 [some (vr (107)), some (vi (m))] [] I L R _
  have e0 := hr.1
  have a7 := allF_7 (n := r 4) ⟨by omega, by omega⟩
  refine s_aload_n 1 dX1_castsFor_0 rfl rfl ?_
  refine s_aload_n 2 dX1_castsFor_1 rfl rfl ?_
  refine s_getR 5 dX1_castsFor_2 rfl fl_X1_36 (fun _ _ _ _ => rfl) (T_X1_night hT) sh_107 (Nat.le_of_ble_eq_true rfl) ?_
  refine s_callV0 (M' := M_X4_allParts) (as := []) 8 dX1_castsFor_5 rfl cw_X1_45 rfl rfl (isN_sh isN_85) rfl (by decide) (isN_lt isN_85) (Nat.le_of_ble_eq_true rfl) (Nat.le_of_ble_eq_true rfl) (Nat.le_of_ble_eq_true rfl) ⟨rfl, rfl, rfl⟩ ?_
  refine c_X4_allParts hT isN_85 hP hNP hW.1 ?_
  refine s_iload_n 9 dX1_castsFor_8 rfl rfl ?_
  refine s_callV0 (M' := (M_X1_ways 3)) (as := [_, _]) 12 dX1_castsFor_9 rfl cw_X1_79 rfl rfl sh_107 rfl (by decide) (Nat.le_of_ble_eq_true rfl) (by first | exact Nat.le_of_ble_eq_true rfl | (simp only [mrk]; omega)) (Nat.le_of_ble_eq_true rfl) (Nat.le_of_ble_eq_true rfl) ⟨rfl, rfl, rfl⟩ ?_
  refine c_X1_ways 3 hT hP hNP hr hsc hg hW a7 hm.1 (by omega) hm.2 (fun I2 g1 g2 => ?_)
  refine s_iret dX1_castsFor_12 rfl rfl ?_
  exact h I2 g1 g2
