/-! a NIGHT is set; what is known of a set -/
def KnG (I : MI) (c : Nat) (G : Int → Prop) : Prop := ∀ s, 0 ≤ s → s < 128 → (I c s = 0 ∨ (I c s = 1 ∧ G s) ∨ (I c s = 2 ∧ ¬ G s))
theorem KnG.c {I I' : MI} {c : Nat} {G G' : Int → Prop} (h : KnG I c G) (e : I' c = I c) (eg : ∀ s, 0 ≤ s → s < 128 → (G s ↔ G' s)) : KnG I' c G' := fun s a b => by
  rw [e, ← eg s a b]
  exact h s a b
set_option maxHeartbeats 4000000 in
theorem c_X3_forget3 {E : ET} {I : MI} {L : ML} {R : MR} {Q : Option AV → MI → ML → MR → Prop} {N : Nat} (hT : Topo R) (hN : isN N) (h : Q none (flI I (N + 1) 128 0) L R) : CT E M_X3_forget 161 yX3_forget [(vr (N))] I L R Q := by
  refine CT_of rfl rfl (fun h => by cases h) (Nat.le_of_ble_eq_true rfl) (fun X => ?_)
  show V X _ z0 0 [some (vr (N))] [] I L R _
  refine s_aload_n 1 dX3_forget_0 rfl rfl ?_
  refine s_getR 4 dX3_forget_1 rfl fl_X3_9_3 (fun _ _ _ _ => rfl) (T_X4_known hT hN) (isN_sh hN) (isN_lt hN) ?_
  refine s_iconst 5 dX3_forget_4 rfl ?_
  refine s_callS0 (M' := M_J7_fill_53178) (as := [_, _]) 8 dX3_forget_5 rfl cw_X3_15 rfl rfl (Nat.le_of_ble_eq_true rfl) (Nat.le_of_ble_eq_true rfl) (Nat.le_of_ble_eq_true rfl) ⟨rfl, rfl, rfl⟩ ?_
  refine c_fill (shN_known hN) (ltN_known hN) (by decide) (by decide) ?_
  refine s_vret dX3_forget_8 rfl rfl ?_
  exact h
set_option maxHeartbeats 4000000 in
theorem c_X3_forget7 {E : ET} {I : MI} {L : ML} {R : MR} {Q : Option AV → MI → ML → MR → Prop} (hT : Topo R) (h : Q none (flI I 136 128 0) L R) : CT E M_X3_forget 161 yX3_forget [(vr (135))] I L R Q := by
  refine CT_of rfl rfl (fun h => by cases h) (Nat.le_of_ble_eq_true rfl) (fun X => ?_)
  show V X _ z0 0 [some (vr (135))] [] I L R _
  refine s_aload_n 1 dX3_forget_0 rfl rfl ?_
  refine s_getR 4 dX3_forget_1 rfl fl_X3_9_7 (fun _ _ _ _ => rfl) (T_X8_known hT) sh_135 (Nat.le_of_ble_eq_true rfl) ?_
  refine s_iconst 5 dX3_forget_4 rfl ?_
  refine s_callS0 (M' := M_J7_fill_53178) (as := [_, _]) 8 dX3_forget_5 rfl cw_X3_15 rfl rfl (Nat.le_of_ble_eq_true rfl) (Nat.le_of_ble_eq_true rfl) (Nat.le_of_ble_eq_true rfl) ⟨rfl, rfl, rfl⟩ ?_
  refine c_fill sh_136 (by decide) (by decide) (by decide) ?_
  refine s_vret dX3_forget_8 rfl rfl ?_
  exact h
theorem flI_e {I : MI} {a : Nat} {n v k : Int} (h : 0 ≤ k ∧ k < n) : flI I a n v a k = v := by rw [flI_k, if_pos h]
/-- a night for an order, a gap, a cut -/
def SetN (I : MI) (N : Nat) (r : F1) (rd o g : Int) (sc : F1) (cut : Int) : Prop := I N 8 = 1 ∧ I N 9 = o ∧ I N 10 = g ∧ NtV I N r rd g sc cut ∧ KnG I (N + 1) (MayP r rd g sc cut)
def NtI (I : MI) (N : Nat) (r : F1) (rd : Int) : Prop := NeP I N r rd ∧ (I N 8 = 0 ∨ ∃ (o g : Int) (sc : F1) (cut : Int), EnO o sc (r 5) ∧ Perm (r 5) sc ∧ (0 ≤ g ∧ g ≤ 99) ∧ SetN I N r rd o g sc cut)
theorem LdM_c {I : MI} {N : Nat} {r : F1} {g : Int} {sc sc' : F1} (hr : WFr r) (hp : Perm (r 5) sc) (e : ∀ i, 0 ≤ i → i < r 5 → sc' i = sc i) (h : LdM I N r g sc) : LdM I N r g sc' := fun k k1 k2 => by
  have t := (tms_c (g := g) hr hp e).1
  rw [h k k1 k2]
  unfold meS
  refine setOf_c (fun l l1 l2 => ?_)
  have l3 : l < r 7 := by have := hr.1; omega
  unfold meetP
  rw [(t k k1 k2).1, (t k k1 k2).2, (t l l1 l3).1, (t l l1 l3).2]
theorem NtV.sc {I : MI} {N : Nat} {r : F1} {rd g : Int} {sc sc' : F1} {cut : Int} (hr : WFr r) (hp : Perm (r 5) sc) (e : ∀ i, 0 ≤ i → i < r 5 → sc' i = sc i) (h : NtV I N r rd g sc cut) : NtV I N r rd g sc' cut := by
  have t := tms_c (g := g) hr hp e
  obtain ⟨a, ⟨b1, b2⟩, c, d, f⟩ := h
  refine ⟨a, ⟨fun s s1 s2 => ?_, fun k k1 k2 => ?_⟩, fun i i1 i2 => ?_, LdM_c hr hp e d, f⟩
  · rw [b1 s s1 s2]; exact (opF_c hp (hp.c e) (by have := hr.1; omega) e ⟨s1, s2⟩).symm
  · rw [(t.1 k k1 k2).1, (t.1 k k1 k2).2]; exact b2 k k1 k2
  · rw [t.2]; exact c i i1 i2
theorem SetN.sc {I : MI} {N : Nat} {r : F1} {rd o g : Int} {sc sc' : F1} {cut : Int} (hr : WFr r) (hp : Perm (r 5) sc) (e : ∀ i, 0 ≤ i → i < r 5 → sc' i = sc i) (h : SetN I N r rd o g sc cut) : SetN I N r rd o g sc' cut := by
  obtain ⟨a, b, c, d, f⟩ := h
  exact ⟨a, b, c, d.sc hr hp e, by rw [MayP_c hr hp e]; exact f⟩
def wI (x : Int) : Int := (iI (x + 1)).toInt
set_option maxHeartbeats 4000000 in
theorem c_X4_set {E : ET} {I : MI} {L : ML} {R : MR} {Q : Option AV → MI → ML → MR → Prop} {N P : Nat} {r sc : F1} {rd o g cut : Int} (hT : Topo R) (hN : isN N) (hP : isP P) (hNP : R N 1 = some P) (hr : WFr r) (hR : PR I P r) (hI : NtI I N r rd) (ho : EnO o sc (r 5)) (hsc : Perm (r 5) sc) (hg : 0 ≤ g ∧ g ≤ 99) (hcut : 0 ≤ cut ∧ cut < 16384) (h : ∀ I', NtF N I I' → SetN I' N r rd o g sc cut → (I' = I ∨ I' N 12 = wI (I N 12)) → Q none I' L R) : CT E M_X4_set 161 yX4_set [(vr (N)), (vi (o)), (vi (g)), (vi (cut))] I L R Q := by
  refine CT_of rfl rfl (fun h => by cases h) (Nat.le_of_ble_eq_true rfl) (fun X => ?_)
  show V X _ z0 0 [some (vr (N)), some (vi (o)), some (vi (g)), some (vi (cut))] [] I L R _
  have hn : N = 85 ∨ N = 113 := hN
  have hp : P = 3 ∨ P = 39 := hP
  have e0 := hr.1
  have hbc := NtV.bc hr hsc hg
  have ho0 := ho.1
  -- anew
  have anew : V X M_X4_set z0 32 [some (vr (N)), some (vi (o)), some (vi (g)), some (vi (cut))] [] (I) L R (RT X M_X4_set Q) := by
    refine s_aload_n 33 dX4_set_32 rfl rfl ?_
    refine s_iconst 34 dX4_set_33 rfl ?_
    refine s_putI 37 dX4_set_34 rfl fl_X4_32 (fun _ => x_nz (by omega)) (fun _ => rfl) (fun _ _ _ _ => rfl) (isN_sh hN) (isN_lt hN) (by first | omega | exact bI_r _ | exact iI_r _) ?_
    refine s_aload_n 38 dX4_set_37 rfl rfl ?_
    refine s_iload_n 39 dX4_set_38 rfl rfl ?_
    refine s_putI 42 dX4_set_39 rfl fl_X4_36 (fun _ => rfl) (fun _ => rfl) (fun _ _ _ _ => rfl) (isN_sh hN) (isN_lt hN) (by first | omega | exact bI_r _ | exact iI_r _) ?_
    refine s_aload_n 43 dX4_set_42 rfl rfl ?_
    refine s_iload_n 44 dX4_set_43 rfl rfl ?_
    refine s_putI 47 dX4_set_44 rfl fl_X4_40 (fun _ => rfl) (fun _ => rfl) (fun _ _ _ _ => rfl) (isN_sh hN) (isN_lt hN) (by first | omega | exact bI_r _ | exact iI_r _) ?_
    refine s_aload_n 48 dX4_set_47 rfl rfl ?_
    refine s_iload_n 49 dX4_set_48 rfl rfl ?_
    refine s_putI 52 dX4_set_49 rfl fl_X4_43 (fun _ => rfl) (fun _ => rfl) (fun _ _ _ _ => rfl) (isN_sh hN) (isN_lt hN) (by first | omega | exact bI_r _ | exact iI_r _) ?_
    refine s_aload_n 53 dX4_set_52 rfl rfl ?_
    refine s_dup 54 dX4_set_53 rfl rfl ?_
    refine s_getI 57 dX4_set_54 rfl fl_X4_46 (fun _ _ _ _ => rfl) (isN_sh hN) (isN_lt hN) (fun r_54 => ?_)
    refine s_iconst 58 dX4_set_57 rfl ?_
    refine s_iadd 59 dX4_set_58 rfl ?_
    refine s_wr ?_
    obtain ⟨I1, e1⟩ : ∃ I1, I1 = up (up (up (up (up I N 8 1) N 9 o) N 10 g) N 11 cut) N 12 (wI (I N 12)) := ⟨_, rfl⟩
    have f1 : NtF N I I1 := by rw [e1]; exact ((((NtF.rf.st (by omega)).st (by omega)).st (by omega)).st (by omega)).st (by omega)
    have a8 : I1 N 8 = 1 := by rw [e1, upn (by decide), upn (by decide), upn (by decide), upn (by decide), ups]
    have a9 : I1 N 9 = o := by rw [e1, upn (by decide), upn (by decide), upn (by decide), ups]
    have a10 : I1 N 10 = g := by rw [e1, upn (by decide), upn (by decide), ups]
    have a11 : I1 N 11 = cut := by rw [e1, upn (by decide), ups]
    have a12 : I1 N 12 = wI (I N 12) := by rw [e1, ups]
    have ao : ∀ c, c ≠ N → I1 c = I c := fun c c1 => by rw [e1, up_ne c1, up_ne c1, up_ne c1, up_ne c1, up_ne c1]
    have ew : up (up (up (up (up I N 8 1) N 9 o) N 10 g) N 11 cut) N 12 (iI (up (up (up (up I N 8 1) N 9 o) N 10 g) N 11 cut N 12 + 1)).toInt = I1 := by rw [upn (by decide), upn (by decide), upn (by decide), upn (by decide), e1]; rfl
    refine s_putI 62 dX4_set_59 rfl fl_X4_46 (fun _ => rfl) (fun _ => rfl) (fun _ _ _ _ => rfl) (isN_sh hN) (isN_lt hN) (iI_r _) ?_
    rw [ew]
    have hR1 := hR.nt hN hP (by omega) f1
    refine s_aload_n 63 dX4_set_62 rfl rfl ?_
    refine s_callV0 (M' := M_X4_setTimes) (as := []) 66 dX4_set_63 rfl cw_X4_62 rfl rfl (isN_sh hN) rfl (by decide) (isN_lt hN) (Nat.le_of_ble_eq_true rfl) (Nat.le_of_ble_eq_true rfl) (Nat.le_of_ble_eq_true rfl) ⟨rfl, rfl, rfl⟩ ?_
    refine c_X4_setTimes hT hN hP hNP hr hR1 a9 a10 ho hsc hg (fun I2 g1 g2 => ?_)
    have f2 : NtF N I I2 := f1.tr (fun c hc => g1 c (by simp; omega))
    have hR2 := hR.nt hN hP (by omega) f2
    refine s_aload_n 67 dX4_set_66 rfl rfl ?_
    refine s_callV0 (M' := M_X4_sortRow) (as := []) 70 dX4_set_67 rfl cw_X4_65 rfl rfl (isN_sh hN) rfl (by decide) (isN_lt hN) (Nat.le_of_ble_eq_true rfl) (Nat.le_of_ble_eq_true rfl) (Nat.le_of_ble_eq_true rfl) ⟨rfl, rfl, rfl⟩ ?_
    refine c_X4_sortRow hT hN hP hNP hr hR2 (fun k k1 k2 => (g2.2 k k1 k2).1) (fun k k1 k2 => ⟨(hbc k k1 k2).1, (hbc k k1 k2).2.1⟩) (fun I3 g3 g4 => ?_)
    have f3 : NtF N I I3 := f2.tr (fun c hc => g3 c (by simp; omega))
    have hR3 := hR.nt hN hP (by omega) f3
    have l3 : ∀ k, 0 ≤ k → k < r 7 → I3 (N + 19) k = bgF r g sc k ∧ I3 (N + 20) k = clF r g sc k := fun k k1 k2 => by rw [g3 (N + 19) (by simp), g3 (N + 20) (by simp)]; exact g2.2 k k1 k2
    refine s_aload_n 71 dX4_set_70 rfl rfl ?_
    refine s_callV0 (M' := M_X4_findMeetings) (as := []) 74 dX4_set_71 rfl cw_X4_68 rfl rfl (isN_sh hN) rfl (by decide) (isN_lt hN) (Nat.le_of_ble_eq_true rfl) (Nat.le_of_ble_eq_true rfl) (Nat.le_of_ble_eq_true rfl) ⟨rfl, rfl, rfl⟩ ?_
    refine c_X4_findMeetings hT hN hP hNP hr hR3 l3 hbc (fun I4 g5 g6 => ?_)
    have f4 : NtF N I I4 := f3.tr (fun c hc => g5 c (by simp; omega))
    refine s_aload_n 75 dX4_set_74 rfl rfl ?_
    refine s_callU0 (M' := M_X3_forget) (as := []) 78 dX4_set_75 rfl cw_X4_71_3 rfl rfl (isN_sh hN) rfl (by decide) (isN_lt hN) (Nat.le_of_ble_eq_true rfl) (Nat.le_of_ble_eq_true rfl) (Nat.le_of_ble_eq_true rfl) ⟨rfl, rfl, rfl⟩ ?_
    refine c_X3_forget3 hT hN ?_
    refine s_vret dX4_set_78 rfl rfl ?_
    have oN : ∀ c, c ≠ N + 1 → c ≠ N + 17 → c ≠ N + 18 → c ≠ N + 19 → c ≠ N + 20 → c ≠ N + 21 → flI I4 (N + 1) 128 0 c = I1 c := fun c c1 c2 c3 c4 c5 c6 => by rw [flI_n c1, g5 c (by simpa using c2), g3 c (by simpa using c6), g1 c (by simp; omega)]
    refine h _ (f4.tr (fun c hc => flI_n (by omega))) ⟨?_, ?_, ?_, ⟨fun a b a1 a2 b1 b2 => ?_, ⟨fun s s1 s2 => ?_, fun k k1 k2 => ?_⟩, fun i i1 i2 => ?_, fun k k1 k2 => ?_, ?_⟩, fun s s1 s2 => ?_⟩ (Or.inr ?_)
    · rw [oN N (by omega) (by omega) (by omega) (by omega) (by omega) (by omega)]; exact a8
    · rw [oN N (by omega) (by omega) (by omega) (by omega) (by omega) (by omega)]; exact a9
    · rw [oN N (by omega) (by omega) (by omega) (by omega) (by omega) (by omega)]; exact a10
    · rw [oN (N + 3 + a.toNat) (by omega) (by omega) (by omega) (by omega) (by omega) (by omega), ao _ (by omega)]; exact hI.1 a b a1 a2 b1 b2
    · rw [flI_n (by omega), g5 _ (by simp), g3 _ (by simp)]; exact g2.1 s s1 s2
    · rw [flI_n (by omega), flI_n (by omega), g5 _ (by simp), g5 _ (by simp)]; exact l3 k k1 k2
    · rw [flI_n (by omega), g5 _ (by simp)]; exact g4 i i1 i2
    · rw [flI_n (by omega)]; exact g6 k k1 k2
    · rw [oN N (by omega) (by omega) (by omega) (by omega) (by omega) (by omega)]; exact a11
    · exact Or.inl (flI_e ⟨s1, s2⟩)
    · rw [oN N (by omega) (by omega) (by omega) (by omega) (by omega) (by omega)]; exact a12
  by_cases hz : I N 8 = 0
  · skip
    refine s_aload_n 1 dX4_set_0 rfl rfl ?_
    refine s_getI 4 dX4_set_1 rfl fl_X4_32 (fun _ _ _ _ => rfl) (isN_sh hN) (isN_lt hN) (fun r_1 => ?_)
    rw [hz]
    refine s_if_eq 32 7 dX4_set_4 rfl rfl (by first | omega | exact bI_r _ | exact iI_r _) (fun h_4 => ?_) (fun h_4 => by exfalso; omega)
    exact anew
  · obtain ⟨hNe, hz2⟩ := hI
    rcases hz2 with z | ⟨o', g', sc', cut', h1, h2, h3, h4⟩
    · exact absurd z hz
    · have b8 := h4.1
      have b9 := h4.2.1
      have b10 := h4.2.2.1
      have b11 := h4.2.2.2.1.2.2.2.2
      have h10 := h1.1
      refine V_rg (fun hrg => ?_)
      have rg11 := hrg N 11
      rw [b11] at rg11
      by_cases ho2 : o' = o
      · subst ho2
        by_cases hg2 : g' = g
        · subst hg2
          by_cases hc2 : cut' = cut
          · subst hc2
            have es : ∀ i, 0 ≤ i → i < r 5 → sc i = sc' i := fun i i1 i2 => by rw [← ho.2.1 i i1 i2, ← h1.2.1 i i1 i2]
            refine s_aload_n 1 dX4_set_0 rfl rfl ?_
            refine s_getI 4 dX4_set_1 rfl fl_X4_32 (fun _ _ _ _ => rfl) (isN_sh hN) (isN_lt hN) (fun r_1 => ?_)
            rw [b8]
            refine s_if_eq 32 7 dX4_set_4 rfl rfl (by first | omega | exact bI_r _ | exact iI_r _) (fun h_4 => by exfalso; omega) (fun h_4 => ?_)
            refine s_aload_n 8 dX4_set_7 rfl rfl ?_
            refine s_getI 11 dX4_set_8 rfl fl_X4_36 (fun _ _ _ _ => rfl) (isN_sh hN) (isN_lt hN) (fun r_8 => ?_)
            refine s_iload_n 12 dX4_set_11 rfl rfl ?_
            rw [b9]
            refine s_icmp_ne 32 15 dX4_set_12 rfl rfl (by first | omega | exact bI_r _ | exact iI_r _) (by first | omega | exact bI_r _ | exact iI_r _) (fun h_12 => by exfalso; omega) (fun h_12 => ?_)
            refine s_aload_n 16 dX4_set_15 rfl rfl ?_
            refine s_getI 19 dX4_set_16 rfl fl_X4_40 (fun _ _ _ _ => rfl) (isN_sh hN) (isN_lt hN) (fun r_16 => ?_)
            refine s_iload_n 20 dX4_set_19 rfl rfl ?_
            rw [b10]
            refine s_icmp_ne 32 23 dX4_set_20 rfl rfl (by first | omega | exact bI_r _ | exact iI_r _) (by first | omega | exact bI_r _ | exact iI_r _) (fun h_20 => by exfalso; omega) (fun h_20 => ?_)
            refine s_aload_n 24 dX4_set_23 rfl rfl ?_
            refine s_getI 27 dX4_set_24 rfl fl_X4_43 (fun _ _ _ _ => rfl) (isN_sh hN) (isN_lt hN) (fun r_24 => ?_)
            refine s_iload_n 28 dX4_set_27 rfl rfl ?_
            rw [b11]
            refine s_icmp_ne 32 31 dX4_set_28 rfl rfl (by first | omega | exact bI_r _ | exact iI_r _) (by first | omega | exact bI_r _ | exact iI_r _) (fun h_28 => by exfalso; omega) (fun h_28 => ?_)
            refine s_vret dX4_set_31 rfl rfl ?_
            exact h I NtF.rf (h4.sc hr h2 es) (Or.inl rfl)
          · skip
            refine s_aload_n 1 dX4_set_0 rfl rfl ?_
            refine s_getI 4 dX4_set_1 rfl fl_X4_32 (fun _ _ _ _ => rfl) (isN_sh hN) (isN_lt hN) (fun r_1 => ?_)
            rw [b8]
            refine s_if_eq 32 7 dX4_set_4 rfl rfl (by first | omega | exact bI_r _ | exact iI_r _) (fun h_4 => by exfalso; omega) (fun h_4 => ?_)
            refine s_aload_n 8 dX4_set_7 rfl rfl ?_
            refine s_getI 11 dX4_set_8 rfl fl_X4_36 (fun _ _ _ _ => rfl) (isN_sh hN) (isN_lt hN) (fun r_8 => ?_)
            refine s_iload_n 12 dX4_set_11 rfl rfl ?_
            rw [b9]
            refine s_icmp_ne 32 15 dX4_set_12 rfl rfl (by first | omega | exact bI_r _ | exact iI_r _) (by first | omega | exact bI_r _ | exact iI_r _) (fun h_12 => by exfalso; omega) (fun h_12 => ?_)
            refine s_aload_n 16 dX4_set_15 rfl rfl ?_
            refine s_getI 19 dX4_set_16 rfl fl_X4_40 (fun _ _ _ _ => rfl) (isN_sh hN) (isN_lt hN) (fun r_16 => ?_)
            refine s_iload_n 20 dX4_set_19 rfl rfl ?_
            rw [b10]
            refine s_icmp_ne 32 23 dX4_set_20 rfl rfl (by first | omega | exact bI_r _ | exact iI_r _) (by first | omega | exact bI_r _ | exact iI_r _) (fun h_20 => by exfalso; omega) (fun h_20 => ?_)
            refine s_aload_n 24 dX4_set_23 rfl rfl ?_
            refine s_getI 27 dX4_set_24 rfl fl_X4_43 (fun _ _ _ _ => rfl) (isN_sh hN) (isN_lt hN) (fun r_24 => ?_)
            refine s_iload_n 28 dX4_set_27 rfl rfl ?_
            rw [b11]
            refine s_icmp_ne 32 31 dX4_set_28 rfl rfl (by first | omega | exact bI_r _ | exact iI_r _) (by first | omega | exact bI_r _ | exact iI_r _) (fun h_28 => ?_) (fun h_28 => by exfalso; omega)
            exact anew
        · skip
          refine s_aload_n 1 dX4_set_0 rfl rfl ?_
          refine s_getI 4 dX4_set_1 rfl fl_X4_32 (fun _ _ _ _ => rfl) (isN_sh hN) (isN_lt hN) (fun r_1 => ?_)
          rw [b8]
          refine s_if_eq 32 7 dX4_set_4 rfl rfl (by first | omega | exact bI_r _ | exact iI_r _) (fun h_4 => by exfalso; omega) (fun h_4 => ?_)
          refine s_aload_n 8 dX4_set_7 rfl rfl ?_
          refine s_getI 11 dX4_set_8 rfl fl_X4_36 (fun _ _ _ _ => rfl) (isN_sh hN) (isN_lt hN) (fun r_8 => ?_)
          refine s_iload_n 12 dX4_set_11 rfl rfl ?_
          rw [b9]
          refine s_icmp_ne 32 15 dX4_set_12 rfl rfl (by first | omega | exact bI_r _ | exact iI_r _) (by first | omega | exact bI_r _ | exact iI_r _) (fun h_12 => by exfalso; omega) (fun h_12 => ?_)
          refine s_aload_n 16 dX4_set_15 rfl rfl ?_
          refine s_getI 19 dX4_set_16 rfl fl_X4_40 (fun _ _ _ _ => rfl) (isN_sh hN) (isN_lt hN) (fun r_16 => ?_)
          refine s_iload_n 20 dX4_set_19 rfl rfl ?_
          rw [b10]
          refine s_icmp_ne 32 23 dX4_set_20 rfl rfl (by first | omega | exact bI_r _ | exact iI_r _) (by first | omega | exact bI_r _ | exact iI_r _) (fun h_20 => ?_) (fun h_20 => by exfalso; omega)
          exact anew
      · skip
        refine s_aload_n 1 dX4_set_0 rfl rfl ?_
        refine s_getI 4 dX4_set_1 rfl fl_X4_32 (fun _ _ _ _ => rfl) (isN_sh hN) (isN_lt hN) (fun r_1 => ?_)
        rw [b8]
        refine s_if_eq 32 7 dX4_set_4 rfl rfl (by first | omega | exact bI_r _ | exact iI_r _) (fun h_4 => by exfalso; omega) (fun h_4 => ?_)
        refine s_aload_n 8 dX4_set_7 rfl rfl ?_
        refine s_getI 11 dX4_set_8 rfl fl_X4_36 (fun _ _ _ _ => rfl) (isN_sh hN) (isN_lt hN) (fun r_8 => ?_)
        refine s_iload_n 12 dX4_set_11 rfl rfl ?_
        rw [b9]
        refine s_icmp_ne 32 15 dX4_set_12 rfl rfl (by first | omega | exact bI_r _ | exact iI_r _) (by first | omega | exact bI_r _ | exact iI_r _) (fun h_12 => ?_) (fun h_12 => by exfalso; omega)
        exact anew
