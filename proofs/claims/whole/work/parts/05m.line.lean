/-! the class's Reader: a LINE, a text -/
def erK (o : PO) : Prop := match o with
  | .inl q => 1 ≤ q.1 ∧ q.1 ≤ 7
  | .inr _ => True
theorem er_nu {bt : F1} {n lo hi : Int} {o : PO} (h : erK o) : erK (nuO bt n lo hi o) := by
  cases o with
  | inl q => exact h
  | inr b =>
    by_cases z : tkE bt n b = 3
    · by_cases y : lo ≤ nuE bt n b ∧ nuE bt n b ≤ hi
      · have e : nuO bt n lo hi (.inr b) = .inr (nxE bt n b) := (pick_t z).trans (pick_t y)
        rw [e]; exact trivial
      · have e : nuO bt n lo hi (.inr b) = .inl (4, b) := (pick_t z).trans (pick_f y)
        rw [e]; exact ⟨by show (1 : Int) ≤ 4; decide, by show (4 : Int) ≤ 7; decide⟩
    · have e : nuO bt n lo hi (.inr b) = .inl (1, b) := pick_f z
      rw [e]; exact ⟨by show (1 : Int) ≤ 1; decide, by show (1 : Int) ≤ 7; decide⟩
theorem er_mu {bt : F1} {n : Int} {w : List Int} {o : PO} (h : erK o) : erK (muW bt n w o) := by
  cases o with
  | inl q => exact h
  | inr b =>
    by_cases z : isW bt n w (.inr b)
    · rw [muW_t z]; exact trivial
    · rw [muW_f z]; exact ⟨by show (1 : Int) ≤ 1; decide, by show (1 : Int) ≤ 7; decide⟩
theorem er_tk {bt : F1} {n : Int} {w : List Int} {o : PO} (h : erK o) : erK (tkW bt n w o) := by
  cases o with
  | inl q => exact h
  | inr b =>
    by_cases z : isW bt n w (.inr b)
    · rw [tkW_t z]; exact trivial
    · rw [tkW_f z]; exact trivial
theorem er_si {bt : F1} {n : Int} {o : PO} (h : erK o) : erK (siO bt n o) := by
  cases o with
  | inl q => exact h
  | inr b =>
    by_cases z : isW bt n (wS 47) (.inr b)
    · have e : siO bt n (.inr b) = .inr (nxE bt n b) := pick_t z
      rw [e]; exact trivial
    · have e : siO bt n (.inr b) = muW bt n (wS 48) (.inr b) := pick_f z
      rw [e]; exact er_mu h
theorem er_ki {bt : F1} {n : Int} {o : PO} (h : erK o) : erK (kiO bt n o) := by
  cases o with
  | inl q => exact h
  | inr b =>
    by_cases k1 : isW bt n (wS 38) (.inr b)
    · have eO : kiO bt n (.inr b) = nuO bt n 0 99 (.inr (nxE bt n b)) := pick_t k1
      rw [eO]; exact er_nu trivial
    · by_cases k2 : isW bt n (wS 39) (.inr b)
      · have eO : kiO bt n (.inr b) = .inr (nxE bt n b) := (pick_f k1).trans (pick_t k2)
        rw [eO]; exact trivial
      · by_cases k3 : isW bt n (wS 40) (.inr b)
        · have eO : kiO bt n (.inr b) = .inr (nxE bt n b) := (pick_f k1).trans ((pick_f k2).trans (pick_t k3))
          rw [eO]; exact trivial
        · have eO : kiO bt n (.inr b) = muW bt n (wS 41) (.inr b) := (pick_f k1).trans ((pick_f k2).trans (pick_f k3))
          rw [eO]; exact er_mu h
theorem er_na {bt r : F1} {n : Int} {B : Prop} {o : PO} (h : erK o) : erK (naO bt n r B o) := by
  cases o with
  | inl q => exact h
  | inr b =>
    by_cases h1 : nmP bt n b
    · by_cases h2 : 0 ≤ fiF r (wdE bt n b) ∧ (B ↔ fiF r (wdE bt n b) < 7)
      · have eo : naO bt n r B (.inr b) = .inr b := (pick_t h1).trans (pick_t h2)
        rw [eo]; exact h
      · have eo : naO bt n r B (.inr b) = .inl (2, b) := (pick_t h1).trans (pick_f h2)
        rw [eo]; exact ⟨by show (1 : Int) ≤ 2; decide, by show (2 : Int) ≤ 7; decide⟩
    · have eo : naO bt n r B (.inr b) = .inl (1, b) := pick_f h1
      rw [eo]; exact ⟨by show (1 : Int) ≤ 1; decide, by show (1 : Int) ≤ 7; decide⟩
theorem er_pa {bt r : F1} {n : Int} {B : Prop} {o : PO} (h : erK o) : erK (paO bt n r B o) := by
  have g := er_na (bt := bt) (n := n) (r := r) (B := B) h
  unfold paO
  cases hq : naO bt n r B o with
  | inl q => rw [hq] at g; exact g
  | inr b => exact trivial
theorem er_nn {bt r : F1} {n : Int} {o : PO} (h : erK o) : erK (nnO bt n r o) := by
  cases o with
  | inl q => exact h
  | inr b =>
    by_cases h1 : nmP bt n b
    · by_cases h2 : fiF r (wdE bt n b) < 0
      · have eo : nnO bt n r (.inr b) = .inr (nxE bt n b) := (pick_t h1).trans (pick_t h2)
        rw [eo]; exact trivial
      · have eo : nnO bt n r (.inr b) = .inl (3, b) := (pick_t h1).trans (pick_f h2)
        rw [eo]; exact ⟨by show (1 : Int) ≤ 3; decide, by show (3 : Int) ≤ 7; decide⟩
    · have eo : nnO bt n r (.inr b) = .inl (1, b) := pick_f h1
      rw [eo]; exact ⟨by show (1 : Int) ≤ 1; decide, by show (1 : Int) ≤ 7; decide⟩
theorem er_af {bt r : F1} {n : Int} {o : PO} (h : erK o) : erK (afO bt n r o) := by
  have g : erK (afB bt n r o) := er_na (er_pa h)
  cases hB : afB bt n r o with
  | inl q =>
    have e : afO bt n r o = .inl q := by unfold afO; rw [hB]
    rw [hB] at g
    rw [e]; exact g
  | inr b =>
    have e : afO bt n r o = pick (afV bt n r o = afW bt n r o) (.inl (3, b)) (pick (AncP r (afV bt n r o) (afW bt n r o)) (.inl (7, b)) (.inr (nxE bt n b))) := by unfold afO; rw [hB]
    rw [e]
    by_cases k1 : afV bt n r o = afW bt n r o
    · rw [pick_t k1]; exact ⟨by show (1 : Int) ≤ 3; decide, by show (3 : Int) ≤ 7; decide⟩
    · rw [pick_f k1]
      by_cases k2 : AncP r (afV bt n r o) (afW bt n r o)
      · rw [pick_t k2]; exact ⟨by show (1 : Int) ≤ 7; decide, by show (7 : Int) ≤ 7; decide⟩
      · rw [pick_f k2]; exact trivial
theorem er_bg {bt : F1} {n num a : Int} {C : Prop} (h : 1 ≤ num ∧ num ≤ 7) : erK (bgO bt n C num a) := by
  by_cases z : C
  · have e : bgO bt n C num a = .inr (nxE bt n a) := pick_t z
    rw [e]; exact trivial
  · have e : bgO bt n C num a = .inl (num, a) := pick_f z
    rw [e]; exact h
theorem er_li {bt r : F1} {n a : Int} : erK (liO bt n r a) := by
  rcases liK_c bt n a with ⟨k, -⟩ | ⟨-, ⟨k, -⟩ | ⟨-, ⟨k, -⟩ | ⟨-, ⟨k, -⟩ | ⟨-, ⟨k, -⟩ | ⟨-, ⟨k, -⟩ | ⟨-, k⟩⟩⟩⟩⟩⟩
  · rw [(li_0 k).1]; exact er_nu (er_mu (er_nu (er_mu (er_nu (er_mu (er_bg (by decide)))))))
  · rw [(li_1 k).1]; exact er_nu (er_mu (er_nu (er_mu (er_nu (er_mu (er_ki (er_nn (er_bg (by decide)))))))))
  · rw [(li_2 k).1]; exact er_nu (er_mu (er_nn (er_bg (by decide))))
  · rw [(li_3 k).1]; exact er_af (er_bg (by decide))
  · rw [(li_4 k).1]; exact er_tk (er_si (er_si (er_nu (er_mu (er_nu (er_pa (er_pa (er_bg (by decide)))))))))
  · rw [(li_5 k).1]; exact er_si (er_nu (er_pa (er_bg (by decide))))
  · rw [li_6 k]; exact ⟨by show (1 : Int) ≤ 1; decide, by show (1 : Int) ≤ 7; decide⟩
theorem er_rs {bt : F1} {n : Int} : ∀ (f : Nat) (r : F1) (o : PO), erK o → erK (rsF bt n f r o).1
  | 0, r, o, h => h
  | f + 1, r, o, h => by
    cases o with
    | inl q => exact h
    | inr b =>
      by_cases z : tkE bt n b = 59
      · have e : rsF bt n (f + 1) r (.inr b) = rsF bt n f (liR bt n r (nxE bt n b)) (liO bt n r (nxE bt n b)) := pick_t z
        rw [e]
        exact er_rs f _ _ er_li
      · have e : rsF bt n (f + 1) r (.inr b) = (.inr b, r) := pick_f z
        rw [e]; exact trivial
theorem finF_e {bt : F1} {n : Int} {q : Int × Int} (h : finF bt n = .inl q) : 1 ≤ q.1 ∧ q.1 ≤ 7 := by
  have g : erK (rdF bt n).1 := er_rs 902 _ _ er_li
  cases hq : (rdF bt n).1 with
  | inl q2 =>
    rw [finF_l hq] at h
    cases h
    rw [hq] at g; exact g
  | inr b =>
    rw [finF_r hq rfl] at h
    by_cases z : tkE bt n b = 0
    · rw [pick_t z] at h
      by_cases y : (rdF bt n).2 0 = 0 ∨ (rdF bt n).2 4 = 0 ∨ (rdF bt n).2 5 = 0
      · rw [pick_t y] at h; cases h; exact ⟨by show (1 : Int) ≤ 6; decide, by show (6 : Int) ≤ 7; decide⟩
      · rw [pick_f y] at h; cases h
    · rw [pick_f z] at h; cases h; exact ⟨by show (1 : Int) ≤ 1; decide, by show (1 : Int) ≤ 7; decide⟩
set_option maxHeartbeats 4000000 in
theorem c_X6_line {E : ET} {I : MI} {L : ML} {R : MR} {Q : Option AV → MI → ML → MR → Prop} {bt r : F1} {n a : Int} {P : Nat} (hT : Topo R) (hP : isP P) (hRP : R 75 5 = some P) (hn : 0 ≤ n ∧ n ≤ 900) (hb : ∀ k, 0 ≤ bt k ∧ bt k ≤ 255) (hW : WFp r) (hS : RdK I L bt n P r a) (h : ∀ I' L', RdF P I L I' L' → RdO I' L' bt n P (liR bt n r a) (liO bt n r a) → Q (some (vi (bI (¬ isE (liO bt n r a))))) I' L' R) : CT E M_X6_line 161 yX6_line [(vr (75))] I L R Q := by
  refine CT_of rfl rfl (fun h => by cases h) (Nat.le_of_ble_eq_true rfl) (fun X => ?_)
  show V X _ z0 0 [some (vr (75))] [] I L R _
  obtain ⟨u0, u1, u2, u3, u4, u12, u13, u14, u15, u16, u17, u18, u19, u20, u21, u22, u23, u24, u25, u26, u27⟩ := wR_eq
  have hp : P = 3 ∨ P = 39 := hP
  have hd := hW.1
  unfold wHd at hd
  have f0 : RdF P I L (up I 75 4 0) L := RdF.rf.fs (by decide)
  have k0 : RdK (up I 75 4 0) L bt n P r a := ⟨by rw [up_ne (by decide)]; exact hS.1, hS.2.1.cr hP hW (fun c z1 _ _ => up_ne z1), hS.2.2.1, by rw [upn (by decide)]; exact hS.2.2.2.1, hS.2.2.2.2.c (up_ne (by decide)) rfl⟩
  have v0 : VC (up I 75 4 0) 0 (fun _ => 0) := ⟨ups, fun j j1 j2 => by omega⟩
  have eT := k0.2.2.2.2.2.2.1
  obtain ⟨⟨p0, p1, p2, p3, p4, p5, p6, p7⟩, -⟩ := k0.2.1
  rcases liK_c bt n a with ⟨k, y0⟩ | ⟨x0, ⟨k, y1⟩ | ⟨x1, ⟨k, y2⟩ | ⟨x2, ⟨k, y3⟩ | ⟨x3, ⟨k, y4⟩ | ⟨x4, ⟨k, y5⟩ | ⟨x5, k⟩⟩⟩⟩⟩⟩
  · have e := li_0 (r := r) k
    by_cases hC : r 0 = 0
    · have eb : bgO bt n (r 0 = 0) 3 a = .inr (nxE bt n a) := pick_t hC
      rw [e.1, e.2, eb] at h
      refine s_aload_n 1 dX6_line_0 rfl rfl ?_
      refine s_iconst 2 dX6_line_1 rfl ?_
      refine s_putI 5 dX6_line_2 rfl fl_X6_78 (fun _ => rfl) (fun _ => rfl) (fun _ _ _ _ => rfl) sh_75 (Nat.le_of_ble_eq_true rfl) (by first | omega | exact bI_r _ | exact iI_r _) ?_
      refine s_aload_n 6 dX6_line_5 rfl rfl ?_
      refine s_getR 9 dX6_line_6 rfl fl_X6_27 (fun _ _ _ _ => rfl) (T_X6_tokens hT) sh_75 (Nat.le_of_ble_eq_true rfl) ?_
      refine s_ldcS 11 dX6_line_9 rfl (ks_X6_81) ?_
      refine s_callV0 (M' := M_X10_isWord) (as := [_]) 14 dX6_line_11 rfl cw_X6_82 rfl rfl sh_79 rfl (by decide) (Nat.le_of_ble_eq_true rfl) (Nat.le_of_ble_eq_true rfl) (Nat.le_of_ble_eq_true rfl) (Nat.le_of_ble_eq_true rfl) ⟨rfl, rfl, rfl⟩ ?_
      refine c_X10_isWord2 hT rfl u0 k0.2.2.2.2 ?_
      refine s_ifb_eq 40 17 dX6_line_14 rfl rfl (fun h_14 => by exfalso; exact absurd y0 h_14) (fun h_14 => ?_)
      refine s_aload_n 18 dX6_line_17 rfl rfl ?_
      refine s_getR 21 dX6_line_18 rfl fl_X6_31 (fun _ _ _ _ => rfl) (by assumption) sh_75 (Nat.le_of_ble_eq_true rfl) ?_
      refine s_getI 24 dX6_line_21 rfl fl_X6_68 (fun _ _ _ _ => rfl) (isP_sh (by assumption)) (isP_lt (by assumption)) (fun r_21 => ?_)
      rw [p2]
      refine s_if_ne 34 27 dX6_line_24 rfl rfl (by first | omega | exact bI_r _ | exact iI_r _) (fun h_24 => by exfalso; omega) (fun h_24 => ?_)
      refine s_aload_n 28 dX6_line_27 rfl rfl ?_
      refine s_callV0 (M' := M_X6_pieceLine) (as := []) 31 dX6_line_28 rfl cw_X6_86 rfl rfl sh_75 rfl (by decide) (Nat.le_of_ble_eq_true rfl) (Nat.le_of_ble_eq_true rfl) (Nat.le_of_ble_eq_true rfl) (Nat.le_of_ble_eq_true rfl) ⟨rfl, rfl, rfl⟩ ?_
      refine c_X6_pieceLine hT hP hRP hn hb hW k0 v0 (fun I2 L2 g1 g2 => ?_)
      refine s_goto 39 dX6_line_31 rfl ?_
      refine s_zret dX6_line_39 rfl (by first | omega | exact bI_b _) rfl ?_
      exact h I2 L2 (f0.tr g1) g2
    · have eb : bgO bt n (r 0 = 0) 3 a = .inl (3, a) := pick_f hC
      have e0 : plO bt n (.inl (3, a)) = .inl (3, a) := rfl
      rw [e.1, eb, e0, isE_l] at h
      refine s_aload_n 1 dX6_line_0 rfl rfl ?_
      refine s_iconst 2 dX6_line_1 rfl ?_
      refine s_putI 5 dX6_line_2 rfl fl_X6_78 (fun _ => rfl) (fun _ => rfl) (fun _ _ _ _ => rfl) sh_75 (Nat.le_of_ble_eq_true rfl) (by first | omega | exact bI_r _ | exact iI_r _) ?_
      refine s_aload_n 6 dX6_line_5 rfl rfl ?_
      refine s_getR 9 dX6_line_6 rfl fl_X6_27 (fun _ _ _ _ => rfl) (T_X6_tokens hT) sh_75 (Nat.le_of_ble_eq_true rfl) ?_
      refine s_ldcS 11 dX6_line_9 rfl (ks_X6_81) ?_
      refine s_callV0 (M' := M_X10_isWord) (as := [_]) 14 dX6_line_11 rfl cw_X6_82 rfl rfl sh_79 rfl (by decide) (Nat.le_of_ble_eq_true rfl) (Nat.le_of_ble_eq_true rfl) (Nat.le_of_ble_eq_true rfl) (Nat.le_of_ble_eq_true rfl) ⟨rfl, rfl, rfl⟩ ?_
      refine c_X10_isWord2 hT rfl u0 k0.2.2.2.2 ?_
      refine s_ifb_eq 40 17 dX6_line_14 rfl rfl (fun h_14 => by exfalso; exact absurd y0 h_14) (fun h_14 => ?_)
      refine s_aload_n 18 dX6_line_17 rfl rfl ?_
      refine s_getR 21 dX6_line_18 rfl fl_X6_31 (fun _ _ _ _ => rfl) (by assumption) sh_75 (Nat.le_of_ble_eq_true rfl) ?_
      refine s_getI 24 dX6_line_21 rfl fl_X6_68 (fun _ _ _ _ => rfl) (isP_sh (by assumption)) (isP_lt (by assumption)) (fun r_21 => ?_)
      rw [p2]
      refine s_if_ne 34 27 dX6_line_24 rfl rfl (by first | omega | exact bI_r _ | exact iI_r _) (fun h_24 => ?_) (fun h_24 => by exfalso; omega)
      refine s_aload_n 35 dX6_line_34 rfl rfl ?_
      refine s_iconst 36 dX6_line_35 rfl ?_
      refine s_callV0 (M' := M_X6_fail) (as := [_]) 39 dX6_line_36 rfl cw_X6_64 rfl rfl sh_75 rfl (by decide) (Nat.le_of_ble_eq_true rfl) (Nat.le_of_ble_eq_true rfl) (Nat.le_of_ble_eq_true rfl) (Nat.le_of_ble_eq_true rfl) ⟨rfl, rfl, rfl⟩ ?_
      refine c_X6_fail hT eT (by decide) ?_
      refine s_zret dX6_line_39 rfl (by first | omega | exact bI_b _) rfl ?_
      exact h _ _ ((f0.fs (by decide)).fs (by decide)) (RdO.fl k0.1)
  · have e := li_1 (r := r) k
    by_cases hC : r 4 < 7
    · have eb : bgO bt n (r 4 < 7) 5 a = .inr (nxE bt n a) := pick_t hC
      rw [e.1, e.2, eb] at h
      refine s_aload_n 1 dX6_line_0 rfl rfl ?_
      refine s_iconst 2 dX6_line_1 rfl ?_
      refine s_putI 5 dX6_line_2 rfl fl_X6_78 (fun _ => rfl) (fun _ => rfl) (fun _ _ _ _ => rfl) sh_75 (Nat.le_of_ble_eq_true rfl) (by first | omega | exact bI_r _ | exact iI_r _) ?_
      refine s_aload_n 6 dX6_line_5 rfl rfl ?_
      refine s_getR 9 dX6_line_6 rfl fl_X6_27 (fun _ _ _ _ => rfl) (T_X6_tokens hT) sh_75 (Nat.le_of_ble_eq_true rfl) ?_
      refine s_ldcS 11 dX6_line_9 rfl (ks_X6_81) ?_
      refine s_callV0 (M' := M_X10_isWord) (as := [_]) 14 dX6_line_11 rfl cw_X6_82 rfl rfl sh_79 rfl (by decide) (Nat.le_of_ble_eq_true rfl) (Nat.le_of_ble_eq_true rfl) (Nat.le_of_ble_eq_true rfl) (Nat.le_of_ble_eq_true rfl) ⟨rfl, rfl, rfl⟩ ?_
      refine c_X10_isWord2 hT rfl u0 k0.2.2.2.2 ?_
      refine s_ifb_eq 40 17 dX6_line_14 rfl rfl (fun h_14 => ?_) (fun h_14 => by exfalso; exact absurd h_14 x0)
      refine s_aload_n 41 dX6_line_40 rfl rfl ?_
      refine s_getR 44 dX6_line_41 rfl fl_X6_27 (fun _ _ _ _ => rfl) (T_X6_tokens hT) sh_75 (Nat.le_of_ble_eq_true rfl) ?_
      refine s_ldcS 46 dX6_line_44 rfl (ks_X6_89) ?_
      refine s_callV0 (M' := M_X10_isWord) (as := [_]) 49 dX6_line_46 rfl cw_X6_82 rfl rfl sh_79 rfl (by decide) (Nat.le_of_ble_eq_true rfl) (Nat.le_of_ble_eq_true rfl) (Nat.le_of_ble_eq_true rfl) (Nat.le_of_ble_eq_true rfl) ⟨rfl, rfl, rfl⟩ ?_
      refine c_X10_isWord2 hT rfl u4 k0.2.2.2.2 ?_
      refine s_ifb_eq 77 52 dX6_line_49 rfl rfl (fun h_49 => by exfalso; exact absurd y1 h_49) (fun h_49 => ?_)
      refine s_aload_n 53 dX6_line_52 rfl rfl ?_
      refine s_getR 56 dX6_line_53 rfl fl_X6_31 (fun _ _ _ _ => rfl) (by assumption) sh_75 (Nat.le_of_ble_eq_true rfl) ?_
      refine s_getI 59 dX6_line_56 rfl fl_X6_71 (fun _ _ _ _ => rfl) (isP_sh (by assumption)) (isP_lt (by assumption)) (fun r_56 => ?_)
      rw [p3]
      refine s_bipush 61 dX6_line_59 rfl (by decide) ?_
      refine s_icmp_ge 71 64 dX6_line_61 rfl rfl (by first | omega | exact bI_r _ | exact iI_r _) (by first | omega | exact bI_r _ | exact iI_r _) (fun h_61 => by exfalso; omega) (fun h_61 => ?_)
      refine s_aload_n 65 dX6_line_64 rfl rfl ?_
      refine s_callV0 (M' := M_X6_partLine) (as := []) 68 dX6_line_65 rfl cw_X6_91 rfl rfl sh_75 rfl (by decide) (Nat.le_of_ble_eq_true rfl) (Nat.le_of_ble_eq_true rfl) (Nat.le_of_ble_eq_true rfl) (Nat.le_of_ble_eq_true rfl) ⟨rfl, rfl, rfl⟩ ?_
      refine c_X6_partLine hT hP hRP hn hb hW (by omega) k0 v0 (fun I2 L2 g1 g2 => ?_)
      refine s_goto 76 dX6_line_68 rfl ?_
      refine s_zret dX6_line_76 rfl (by first | omega | exact bI_b _) rfl ?_
      exact h I2 L2 (f0.tr g1) g2
    · have eb : bgO bt n (r 4 < 7) 5 a = .inl (5, a) := pick_f hC
      have e0 : ptO bt n r (.inl (5, a)) = .inl (5, a) := rfl
      rw [e.1, eb, e0, isE_l] at h
      refine s_aload_n 1 dX6_line_0 rfl rfl ?_
      refine s_iconst 2 dX6_line_1 rfl ?_
      refine s_putI 5 dX6_line_2 rfl fl_X6_78 (fun _ => rfl) (fun _ => rfl) (fun _ _ _ _ => rfl) sh_75 (Nat.le_of_ble_eq_true rfl) (by first | omega | exact bI_r _ | exact iI_r _) ?_
      refine s_aload_n 6 dX6_line_5 rfl rfl ?_
      refine s_getR 9 dX6_line_6 rfl fl_X6_27 (fun _ _ _ _ => rfl) (T_X6_tokens hT) sh_75 (Nat.le_of_ble_eq_true rfl) ?_
      refine s_ldcS 11 dX6_line_9 rfl (ks_X6_81) ?_
      refine s_callV0 (M' := M_X10_isWord) (as := [_]) 14 dX6_line_11 rfl cw_X6_82 rfl rfl sh_79 rfl (by decide) (Nat.le_of_ble_eq_true rfl) (Nat.le_of_ble_eq_true rfl) (Nat.le_of_ble_eq_true rfl) (Nat.le_of_ble_eq_true rfl) ⟨rfl, rfl, rfl⟩ ?_
      refine c_X10_isWord2 hT rfl u0 k0.2.2.2.2 ?_
      refine s_ifb_eq 40 17 dX6_line_14 rfl rfl (fun h_14 => ?_) (fun h_14 => by exfalso; exact absurd h_14 x0)
      refine s_aload_n 41 dX6_line_40 rfl rfl ?_
      refine s_getR 44 dX6_line_41 rfl fl_X6_27 (fun _ _ _ _ => rfl) (T_X6_tokens hT) sh_75 (Nat.le_of_ble_eq_true rfl) ?_
      refine s_ldcS 46 dX6_line_44 rfl (ks_X6_89) ?_
      refine s_callV0 (M' := M_X10_isWord) (as := [_]) 49 dX6_line_46 rfl cw_X6_82 rfl rfl sh_79 rfl (by decide) (Nat.le_of_ble_eq_true rfl) (Nat.le_of_ble_eq_true rfl) (Nat.le_of_ble_eq_true rfl) (Nat.le_of_ble_eq_true rfl) ⟨rfl, rfl, rfl⟩ ?_
      refine c_X10_isWord2 hT rfl u4 k0.2.2.2.2 ?_
      refine s_ifb_eq 77 52 dX6_line_49 rfl rfl (fun h_49 => by exfalso; exact absurd y1 h_49) (fun h_49 => ?_)
      refine s_aload_n 53 dX6_line_52 rfl rfl ?_
      refine s_getR 56 dX6_line_53 rfl fl_X6_31 (fun _ _ _ _ => rfl) (by assumption) sh_75 (Nat.le_of_ble_eq_true rfl) ?_
      refine s_getI 59 dX6_line_56 rfl fl_X6_71 (fun _ _ _ _ => rfl) (isP_sh (by assumption)) (isP_lt (by assumption)) (fun r_56 => ?_)
      rw [p3]
      refine s_bipush 61 dX6_line_59 rfl (by decide) ?_
      refine s_icmp_ge 71 64 dX6_line_61 rfl rfl (by first | omega | exact bI_r _ | exact iI_r _) (by first | omega | exact bI_r _ | exact iI_r _) (fun h_61 => ?_) (fun h_61 => by exfalso; omega)
      refine s_aload_n 72 dX6_line_71 rfl rfl ?_
      refine s_iconst 73 dX6_line_72 rfl ?_
      refine s_callV0 (M' := M_X6_fail) (as := [_]) 76 dX6_line_73 rfl cw_X6_64 rfl rfl sh_75 rfl (by decide) (Nat.le_of_ble_eq_true rfl) (Nat.le_of_ble_eq_true rfl) (Nat.le_of_ble_eq_true rfl) (Nat.le_of_ble_eq_true rfl) ⟨rfl, rfl, rfl⟩ ?_
      refine c_X6_fail hT eT (by decide) ?_
      refine s_zret dX6_line_76 rfl (by first | omega | exact bI_b _) rfl ?_
      exact h _ _ ((f0.fs (by decide)).fs (by decide)) (RdO.fl k0.1)
  · have e := li_2 (r := r) k
    by_cases hC : r 5 < 5
    · have eb : bgO bt n (r 5 < 5) 5 a = .inr (nxE bt n a) := pick_t hC
      rw [e.1, e.2, eb] at h
      refine s_aload_n 1 dX6_line_0 rfl rfl ?_
      refine s_iconst 2 dX6_line_1 rfl ?_
      refine s_putI 5 dX6_line_2 rfl fl_X6_78 (fun _ => rfl) (fun _ => rfl) (fun _ _ _ _ => rfl) sh_75 (Nat.le_of_ble_eq_true rfl) (by first | omega | exact bI_r _ | exact iI_r _) ?_
      refine s_aload_n 6 dX6_line_5 rfl rfl ?_
      refine s_getR 9 dX6_line_6 rfl fl_X6_27 (fun _ _ _ _ => rfl) (T_X6_tokens hT) sh_75 (Nat.le_of_ble_eq_true rfl) ?_
      refine s_ldcS 11 dX6_line_9 rfl (ks_X6_81) ?_
      refine s_callV0 (M' := M_X10_isWord) (as := [_]) 14 dX6_line_11 rfl cw_X6_82 rfl rfl sh_79 rfl (by decide) (Nat.le_of_ble_eq_true rfl) (Nat.le_of_ble_eq_true rfl) (Nat.le_of_ble_eq_true rfl) (Nat.le_of_ble_eq_true rfl) ⟨rfl, rfl, rfl⟩ ?_
      refine c_X10_isWord2 hT rfl u0 k0.2.2.2.2 ?_
      refine s_ifb_eq 40 17 dX6_line_14 rfl rfl (fun h_14 => ?_) (fun h_14 => by exfalso; exact absurd h_14 x0)
      refine s_aload_n 41 dX6_line_40 rfl rfl ?_
      refine s_getR 44 dX6_line_41 rfl fl_X6_27 (fun _ _ _ _ => rfl) (T_X6_tokens hT) sh_75 (Nat.le_of_ble_eq_true rfl) ?_
      refine s_ldcS 46 dX6_line_44 rfl (ks_X6_89) ?_
      refine s_callV0 (M' := M_X10_isWord) (as := [_]) 49 dX6_line_46 rfl cw_X6_82 rfl rfl sh_79 rfl (by decide) (Nat.le_of_ble_eq_true rfl) (Nat.le_of_ble_eq_true rfl) (Nat.le_of_ble_eq_true rfl) (Nat.le_of_ble_eq_true rfl) ⟨rfl, rfl, rfl⟩ ?_
      refine c_X10_isWord2 hT rfl u4 k0.2.2.2.2 ?_
      refine s_ifb_eq 77 52 dX6_line_49 rfl rfl (fun h_49 => ?_) (fun h_49 => by exfalso; exact absurd h_49 x1)
      refine s_aload_n 78 dX6_line_77 rfl rfl ?_
      refine s_getR 81 dX6_line_78 rfl fl_X6_27 (fun _ _ _ _ => rfl) (T_X6_tokens hT) sh_75 (Nat.le_of_ble_eq_true rfl) ?_
      refine s_ldcS 83 dX6_line_81 rfl (ks_X6_94) ?_
      refine s_callV0 (M' := M_X10_isWord) (as := [_]) 86 dX6_line_83 rfl cw_X6_82 rfl rfl sh_79 rfl (by decide) (Nat.le_of_ble_eq_true rfl) (Nat.le_of_ble_eq_true rfl) (Nat.le_of_ble_eq_true rfl) (Nat.le_of_ble_eq_true rfl) ⟨rfl, rfl, rfl⟩ ?_
      refine c_X10_isWord2 hT rfl u19 k0.2.2.2.2 ?_
      refine s_ifb_eq 113 89 dX6_line_86 rfl rfl (fun h_86 => by exfalso; exact absurd y2 h_86) (fun h_86 => ?_)
      refine s_aload_n 90 dX6_line_89 rfl rfl ?_
      refine s_getR 93 dX6_line_90 rfl fl_X6_31 (fun _ _ _ _ => rfl) (by assumption) sh_75 (Nat.le_of_ble_eq_true rfl) ?_
      refine s_getI 96 dX6_line_93 rfl fl_X6_74 (fun _ _ _ _ => rfl) (isP_sh (by assumption)) (isP_lt (by assumption)) (fun r_93 => ?_)
      rw [p4]
      refine s_iconst 97 dX6_line_96 rfl ?_
      refine s_icmp_ge 107 100 dX6_line_97 rfl rfl (by first | omega | exact bI_r _ | exact iI_r _) (by first | omega | exact bI_r _ | exact iI_r _) (fun h_97 => by exfalso; omega) (fun h_97 => ?_)
      refine s_aload_n 101 dX6_line_100 rfl rfl ?_
      refine s_callV0 (M' := M_X6_sceneLine) (as := []) 104 dX6_line_101 rfl cw_X6_96 rfl rfl sh_75 rfl (by decide) (Nat.le_of_ble_eq_true rfl) (Nat.le_of_ble_eq_true rfl) (Nat.le_of_ble_eq_true rfl) (Nat.le_of_ble_eq_true rfl) ⟨rfl, rfl, rfl⟩ ?_
      refine c_X6_sceneLine hT hP hRP hn hb hW (by omega) k0 v0 (fun I2 L2 g1 g2 => ?_)
      refine s_goto 112 dX6_line_104 rfl ?_
      refine s_zret dX6_line_112 rfl (by first | omega | exact bI_b _) rfl ?_
      exact h I2 L2 (f0.tr g1) g2
    · have eb : bgO bt n (r 5 < 5) 5 a = .inl (5, a) := pick_f hC
      have e0 : scO bt n r (.inl (5, a)) = .inl (5, a) := rfl
      rw [e.1, eb, e0, isE_l] at h
      refine s_aload_n 1 dX6_line_0 rfl rfl ?_
      refine s_iconst 2 dX6_line_1 rfl ?_
      refine s_putI 5 dX6_line_2 rfl fl_X6_78 (fun _ => rfl) (fun _ => rfl) (fun _ _ _ _ => rfl) sh_75 (Nat.le_of_ble_eq_true rfl) (by first | omega | exact bI_r _ | exact iI_r _) ?_
      refine s_aload_n 6 dX6_line_5 rfl rfl ?_
      refine s_getR 9 dX6_line_6 rfl fl_X6_27 (fun _ _ _ _ => rfl) (T_X6_tokens hT) sh_75 (Nat.le_of_ble_eq_true rfl) ?_
      refine s_ldcS 11 dX6_line_9 rfl (ks_X6_81) ?_
      refine s_callV0 (M' := M_X10_isWord) (as := [_]) 14 dX6_line_11 rfl cw_X6_82 rfl rfl sh_79 rfl (by decide) (Nat.le_of_ble_eq_true rfl) (Nat.le_of_ble_eq_true rfl) (Nat.le_of_ble_eq_true rfl) (Nat.le_of_ble_eq_true rfl) ⟨rfl, rfl, rfl⟩ ?_
      refine c_X10_isWord2 hT rfl u0 k0.2.2.2.2 ?_
      refine s_ifb_eq 40 17 dX6_line_14 rfl rfl (fun h_14 => ?_) (fun h_14 => by exfalso; exact absurd h_14 x0)
      refine s_aload_n 41 dX6_line_40 rfl rfl ?_
      refine s_getR 44 dX6_line_41 rfl fl_X6_27 (fun _ _ _ _ => rfl) (T_X6_tokens hT) sh_75 (Nat.le_of_ble_eq_true rfl) ?_
      refine s_ldcS 46 dX6_line_44 rfl (ks_X6_89) ?_
      refine s_callV0 (M' := M_X10_isWord) (as := [_]) 49 dX6_line_46 rfl cw_X6_82 rfl rfl sh_79 rfl (by decide) (Nat.le_of_ble_eq_true rfl) (Nat.le_of_ble_eq_true rfl) (Nat.le_of_ble_eq_true rfl) (Nat.le_of_ble_eq_true rfl) ⟨rfl, rfl, rfl⟩ ?_
      refine c_X10_isWord2 hT rfl u4 k0.2.2.2.2 ?_
      refine s_ifb_eq 77 52 dX6_line_49 rfl rfl (fun h_49 => ?_) (fun h_49 => by exfalso; exact absurd h_49 x1)
      refine s_aload_n 78 dX6_line_77 rfl rfl ?_
      refine s_getR 81 dX6_line_78 rfl fl_X6_27 (fun _ _ _ _ => rfl) (T_X6_tokens hT) sh_75 (Nat.le_of_ble_eq_true rfl) ?_
      refine s_ldcS 83 dX6_line_81 rfl (ks_X6_94) ?_
      refine s_callV0 (M' := M_X10_isWord) (as := [_]) 86 dX6_line_83 rfl cw_X6_82 rfl rfl sh_79 rfl (by decide) (Nat.le_of_ble_eq_true rfl) (Nat.le_of_ble_eq_true rfl) (Nat.le_of_ble_eq_true rfl) (Nat.le_of_ble_eq_true rfl) ⟨rfl, rfl, rfl⟩ ?_
      refine c_X10_isWord2 hT rfl u19 k0.2.2.2.2 ?_
      refine s_ifb_eq 113 89 dX6_line_86 rfl rfl (fun h_86 => by exfalso; exact absurd y2 h_86) (fun h_86 => ?_)
      refine s_aload_n 90 dX6_line_89 rfl rfl ?_
      refine s_getR 93 dX6_line_90 rfl fl_X6_31 (fun _ _ _ _ => rfl) (by assumption) sh_75 (Nat.le_of_ble_eq_true rfl) ?_
      refine s_getI 96 dX6_line_93 rfl fl_X6_74 (fun _ _ _ _ => rfl) (isP_sh (by assumption)) (isP_lt (by assumption)) (fun r_93 => ?_)
      rw [p4]
      refine s_iconst 97 dX6_line_96 rfl ?_
      refine s_icmp_ge 107 100 dX6_line_97 rfl rfl (by first | omega | exact bI_r _ | exact iI_r _) (by first | omega | exact bI_r _ | exact iI_r _) (fun h_97 => ?_) (fun h_97 => by exfalso; omega)
      refine s_aload_n 108 dX6_line_107 rfl rfl ?_
      refine s_iconst 109 dX6_line_108 rfl ?_
      refine s_callV0 (M' := M_X6_fail) (as := [_]) 112 dX6_line_109 rfl cw_X6_64 rfl rfl sh_75 rfl (by decide) (Nat.le_of_ble_eq_true rfl) (Nat.le_of_ble_eq_true rfl) (Nat.le_of_ble_eq_true rfl) (Nat.le_of_ble_eq_true rfl) ⟨rfl, rfl, rfl⟩ ?_
      refine c_X6_fail hT eT (by decide) ?_
      refine s_zret dX6_line_112 rfl (by first | omega | exact bI_b _) rfl ?_
      exact h _ _ ((f0.fs (by decide)).fs (by decide)) (RdO.fl k0.1)
  · have e := li_3 (r := r) k
    by_cases hC : r 6 < 6
    · have eb : bgO bt n (r 6 < 6) 5 a = .inr (nxE bt n a) := pick_t hC
      rw [e.1, e.2, eb] at h
      refine s_aload_n 1 dX6_line_0 rfl rfl ?_
      refine s_iconst 2 dX6_line_1 rfl ?_
      refine s_putI 5 dX6_line_2 rfl fl_X6_78 (fun _ => rfl) (fun _ => rfl) (fun _ _ _ _ => rfl) sh_75 (Nat.le_of_ble_eq_true rfl) (by first | omega | exact bI_r _ | exact iI_r _) ?_
      refine s_aload_n 6 dX6_line_5 rfl rfl ?_
      refine s_getR 9 dX6_line_6 rfl fl_X6_27 (fun _ _ _ _ => rfl) (T_X6_tokens hT) sh_75 (Nat.le_of_ble_eq_true rfl) ?_
      refine s_ldcS 11 dX6_line_9 rfl (ks_X6_81) ?_
      refine s_callV0 (M' := M_X10_isWord) (as := [_]) 14 dX6_line_11 rfl cw_X6_82 rfl rfl sh_79 rfl (by decide) (Nat.le_of_ble_eq_true rfl) (Nat.le_of_ble_eq_true rfl) (Nat.le_of_ble_eq_true rfl) (Nat.le_of_ble_eq_true rfl) ⟨rfl, rfl, rfl⟩ ?_
      refine c_X10_isWord2 hT rfl u0 k0.2.2.2.2 ?_
      refine s_ifb_eq 40 17 dX6_line_14 rfl rfl (fun h_14 => ?_) (fun h_14 => by exfalso; exact absurd h_14 x0)
      refine s_aload_n 41 dX6_line_40 rfl rfl ?_
      refine s_getR 44 dX6_line_41 rfl fl_X6_27 (fun _ _ _ _ => rfl) (T_X6_tokens hT) sh_75 (Nat.le_of_ble_eq_true rfl) ?_
      refine s_ldcS 46 dX6_line_44 rfl (ks_X6_89) ?_
      refine s_callV0 (M' := M_X10_isWord) (as := [_]) 49 dX6_line_46 rfl cw_X6_82 rfl rfl sh_79 rfl (by decide) (Nat.le_of_ble_eq_true rfl) (Nat.le_of_ble_eq_true rfl) (Nat.le_of_ble_eq_true rfl) (Nat.le_of_ble_eq_true rfl) ⟨rfl, rfl, rfl⟩ ?_
      refine c_X10_isWord2 hT rfl u4 k0.2.2.2.2 ?_
      refine s_ifb_eq 77 52 dX6_line_49 rfl rfl (fun h_49 => ?_) (fun h_49 => by exfalso; exact absurd h_49 x1)
      refine s_aload_n 78 dX6_line_77 rfl rfl ?_
      refine s_getR 81 dX6_line_78 rfl fl_X6_27 (fun _ _ _ _ => rfl) (T_X6_tokens hT) sh_75 (Nat.le_of_ble_eq_true rfl) ?_
      refine s_ldcS 83 dX6_line_81 rfl (ks_X6_94) ?_
      refine s_callV0 (M' := M_X10_isWord) (as := [_]) 86 dX6_line_83 rfl cw_X6_82 rfl rfl sh_79 rfl (by decide) (Nat.le_of_ble_eq_true rfl) (Nat.le_of_ble_eq_true rfl) (Nat.le_of_ble_eq_true rfl) (Nat.le_of_ble_eq_true rfl) ⟨rfl, rfl, rfl⟩ ?_
      refine c_X10_isWord2 hT rfl u19 k0.2.2.2.2 ?_
      refine s_ifb_eq 113 89 dX6_line_86 rfl rfl (fun h_86 => ?_) (fun h_86 => by exfalso; exact absurd h_86 x2)
      refine s_aload_n 114 dX6_line_113 rfl rfl ?_
      refine s_getR 117 dX6_line_114 rfl fl_X6_27 (fun _ _ _ _ => rfl) (T_X6_tokens hT) sh_75 (Nat.le_of_ble_eq_true rfl) ?_
      refine s_ldcS 119 dX6_line_117 rfl (ks_X6_99) ?_
      refine s_callV0 (M' := M_X10_isWord) (as := [_]) 122 dX6_line_119 rfl cw_X6_82 rfl rfl sh_79 rfl (by decide) (Nat.le_of_ble_eq_true rfl) (Nat.le_of_ble_eq_true rfl) (Nat.le_of_ble_eq_true rfl) (Nat.le_of_ble_eq_true rfl) ⟨rfl, rfl, rfl⟩ ?_
      refine c_X10_isWord2 hT rfl u21 k0.2.2.2.2 ?_
      refine s_ifb_eq 150 125 dX6_line_122 rfl rfl (fun h_122 => by exfalso; exact absurd y3 h_122) (fun h_122 => ?_)
      refine s_aload_n 126 dX6_line_125 rfl rfl ?_
      refine s_getR 129 dX6_line_126 rfl fl_X6_31 (fun _ _ _ _ => rfl) (by assumption) sh_75 (Nat.le_of_ble_eq_true rfl) ?_
      refine s_getI 132 dX6_line_129 rfl fl_X6_101 (fun _ _ _ _ => rfl) (isP_sh (by assumption)) (isP_lt (by assumption)) (fun r_129 => ?_)
      rw [p5]
      refine s_bipush 134 dX6_line_132 rfl (by decide) ?_
      refine s_icmp_ge 144 137 dX6_line_134 rfl rfl (by first | omega | exact bI_r _ | exact iI_r _) (by first | omega | exact bI_r _ | exact iI_r _) (fun h_134 => by exfalso; omega) (fun h_134 => ?_)
      refine s_aload_n 138 dX6_line_137 rfl rfl ?_
      refine s_callV0 (M' := M_X6_afterLine) (as := []) 141 dX6_line_138 rfl cw_X6_104 rfl rfl sh_75 rfl (by decide) (Nat.le_of_ble_eq_true rfl) (Nat.le_of_ble_eq_true rfl) (Nat.le_of_ble_eq_true rfl) (Nat.le_of_ble_eq_true rfl) ⟨rfl, rfl, rfl⟩ ?_
      refine c_X6_afterLine hT hP hRP hn hb hW (by omega) k0 v0 (fun I2 L2 g1 g2 => ?_)
      refine s_goto 149 dX6_line_141 rfl ?_
      refine s_zret dX6_line_149 rfl (by first | omega | exact bI_b _) rfl ?_
      exact h I2 L2 (f0.tr g1) g2
    · have eb : bgO bt n (r 6 < 6) 5 a = .inl (5, a) := pick_f hC
      have e0 : afO bt n r (.inl (5, a)) = .inl (5, a) := rfl
      rw [e.1, eb, e0, isE_l] at h
      refine s_aload_n 1 dX6_line_0 rfl rfl ?_
      refine s_iconst 2 dX6_line_1 rfl ?_
      refine s_putI 5 dX6_line_2 rfl fl_X6_78 (fun _ => rfl) (fun _ => rfl) (fun _ _ _ _ => rfl) sh_75 (Nat.le_of_ble_eq_true rfl) (by first | omega | exact bI_r _ | exact iI_r _) ?_
      refine s_aload_n 6 dX6_line_5 rfl rfl ?_
      refine s_getR 9 dX6_line_6 rfl fl_X6_27 (fun _ _ _ _ => rfl) (T_X6_tokens hT) sh_75 (Nat.le_of_ble_eq_true rfl) ?_
      refine s_ldcS 11 dX6_line_9 rfl (ks_X6_81) ?_
      refine s_callV0 (M' := M_X10_isWord) (as := [_]) 14 dX6_line_11 rfl cw_X6_82 rfl rfl sh_79 rfl (by decide) (Nat.le_of_ble_eq_true rfl) (Nat.le_of_ble_eq_true rfl) (Nat.le_of_ble_eq_true rfl) (Nat.le_of_ble_eq_true rfl) ⟨rfl, rfl, rfl⟩ ?_
      refine c_X10_isWord2 hT rfl u0 k0.2.2.2.2 ?_
      refine s_ifb_eq 40 17 dX6_line_14 rfl rfl (fun h_14 => ?_) (fun h_14 => by exfalso; exact absurd h_14 x0)
      refine s_aload_n 41 dX6_line_40 rfl rfl ?_
      refine s_getR 44 dX6_line_41 rfl fl_X6_27 (fun _ _ _ _ => rfl) (T_X6_tokens hT) sh_75 (Nat.le_of_ble_eq_true rfl) ?_
      refine s_ldcS 46 dX6_line_44 rfl (ks_X6_89) ?_
      refine s_callV0 (M' := M_X10_isWord) (as := [_]) 49 dX6_line_46 rfl cw_X6_82 rfl rfl sh_79 rfl (by decide) (Nat.le_of_ble_eq_true rfl) (Nat.le_of_ble_eq_true rfl) (Nat.le_of_ble_eq_true rfl) (Nat.le_of_ble_eq_true rfl) ⟨rfl, rfl, rfl⟩ ?_
      refine c_X10_isWord2 hT rfl u4 k0.2.2.2.2 ?_
      refine s_ifb_eq 77 52 dX6_line_49 rfl rfl (fun h_49 => ?_) (fun h_49 => by exfalso; exact absurd h_49 x1)
      refine s_aload_n 78 dX6_line_77 rfl rfl ?_
      refine s_getR 81 dX6_line_78 rfl fl_X6_27 (fun _ _ _ _ => rfl) (T_X6_tokens hT) sh_75 (Nat.le_of_ble_eq_true rfl) ?_
      refine s_ldcS 83 dX6_line_81 rfl (ks_X6_94) ?_
      refine s_callV0 (M' := M_X10_isWord) (as := [_]) 86 dX6_line_83 rfl cw_X6_82 rfl rfl sh_79 rfl (by decide) (Nat.le_of_ble_eq_true rfl) (Nat.le_of_ble_eq_true rfl) (Nat.le_of_ble_eq_true rfl) (Nat.le_of_ble_eq_true rfl) ⟨rfl, rfl, rfl⟩ ?_
      refine c_X10_isWord2 hT rfl u19 k0.2.2.2.2 ?_
      refine s_ifb_eq 113 89 dX6_line_86 rfl rfl (fun h_86 => ?_) (fun h_86 => by exfalso; exact absurd h_86 x2)
      refine s_aload_n 114 dX6_line_113 rfl rfl ?_
      refine s_getR 117 dX6_line_114 rfl fl_X6_27 (fun _ _ _ _ => rfl) (T_X6_tokens hT) sh_75 (Nat.le_of_ble_eq_true rfl) ?_
      refine s_ldcS 119 dX6_line_117 rfl (ks_X6_99) ?_
      refine s_callV0 (M' := M_X10_isWord) (as := [_]) 122 dX6_line_119 rfl cw_X6_82 rfl rfl sh_79 rfl (by decide) (Nat.le_of_ble_eq_true rfl) (Nat.le_of_ble_eq_true rfl) (Nat.le_of_ble_eq_true rfl) (Nat.le_of_ble_eq_true rfl) ⟨rfl, rfl, rfl⟩ ?_
      refine c_X10_isWord2 hT rfl u21 k0.2.2.2.2 ?_
      refine s_ifb_eq 150 125 dX6_line_122 rfl rfl (fun h_122 => by exfalso; exact absurd y3 h_122) (fun h_122 => ?_)
      refine s_aload_n 126 dX6_line_125 rfl rfl ?_
      refine s_getR 129 dX6_line_126 rfl fl_X6_31 (fun _ _ _ _ => rfl) (by assumption) sh_75 (Nat.le_of_ble_eq_true rfl) ?_
      refine s_getI 132 dX6_line_129 rfl fl_X6_101 (fun _ _ _ _ => rfl) (isP_sh (by assumption)) (isP_lt (by assumption)) (fun r_129 => ?_)
      rw [p5]
      refine s_bipush 134 dX6_line_132 rfl (by decide) ?_
      refine s_icmp_ge 144 137 dX6_line_134 rfl rfl (by first | omega | exact bI_r _ | exact iI_r _) (by first | omega | exact bI_r _ | exact iI_r _) (fun h_134 => ?_) (fun h_134 => by exfalso; omega)
      refine s_aload_n 145 dX6_line_144 rfl rfl ?_
      refine s_iconst 146 dX6_line_145 rfl ?_
      refine s_callV0 (M' := M_X6_fail) (as := [_]) 149 dX6_line_146 rfl cw_X6_64 rfl rfl sh_75 rfl (by decide) (Nat.le_of_ble_eq_true rfl) (Nat.le_of_ble_eq_true rfl) (Nat.le_of_ble_eq_true rfl) (Nat.le_of_ble_eq_true rfl) ⟨rfl, rfl, rfl⟩ ?_
      refine c_X6_fail hT eT (by decide) ?_
      refine s_zret dX6_line_149 rfl (by first | omega | exact bI_b _) rfl ?_
      exact h _ _ ((f0.fs (by decide)).fs (by decide)) (RdO.fl k0.1)
  · have e := li_4 (r := r) k
    by_cases hC : r 7 < 14
    · have eb : bgO bt n (r 7 < 14) 5 a = .inr (nxE bt n a) := pick_t hC
      rw [e.1, e.2, eb] at h
      refine s_aload_n 1 dX6_line_0 rfl rfl ?_
      refine s_iconst 2 dX6_line_1 rfl ?_
      refine s_putI 5 dX6_line_2 rfl fl_X6_78 (fun _ => rfl) (fun _ => rfl) (fun _ _ _ _ => rfl) sh_75 (Nat.le_of_ble_eq_true rfl) (by first | omega | exact bI_r _ | exact iI_r _) ?_
      refine s_aload_n 6 dX6_line_5 rfl rfl ?_
      refine s_getR 9 dX6_line_6 rfl fl_X6_27 (fun _ _ _ _ => rfl) (T_X6_tokens hT) sh_75 (Nat.le_of_ble_eq_true rfl) ?_
      refine s_ldcS 11 dX6_line_9 rfl (ks_X6_81) ?_
      refine s_callV0 (M' := M_X10_isWord) (as := [_]) 14 dX6_line_11 rfl cw_X6_82 rfl rfl sh_79 rfl (by decide) (Nat.le_of_ble_eq_true rfl) (Nat.le_of_ble_eq_true rfl) (Nat.le_of_ble_eq_true rfl) (Nat.le_of_ble_eq_true rfl) ⟨rfl, rfl, rfl⟩ ?_
      refine c_X10_isWord2 hT rfl u0 k0.2.2.2.2 ?_
      refine s_ifb_eq 40 17 dX6_line_14 rfl rfl (fun h_14 => ?_) (fun h_14 => by exfalso; exact absurd h_14 x0)
      refine s_aload_n 41 dX6_line_40 rfl rfl ?_
      refine s_getR 44 dX6_line_41 rfl fl_X6_27 (fun _ _ _ _ => rfl) (T_X6_tokens hT) sh_75 (Nat.le_of_ble_eq_true rfl) ?_
      refine s_ldcS 46 dX6_line_44 rfl (ks_X6_89) ?_
      refine s_callV0 (M' := M_X10_isWord) (as := [_]) 49 dX6_line_46 rfl cw_X6_82 rfl rfl sh_79 rfl (by decide) (Nat.le_of_ble_eq_true rfl) (Nat.le_of_ble_eq_true rfl) (Nat.le_of_ble_eq_true rfl) (Nat.le_of_ble_eq_true rfl) ⟨rfl, rfl, rfl⟩ ?_
      refine c_X10_isWord2 hT rfl u4 k0.2.2.2.2 ?_
      refine s_ifb_eq 77 52 dX6_line_49 rfl rfl (fun h_49 => ?_) (fun h_49 => by exfalso; exact absurd h_49 x1)
      refine s_aload_n 78 dX6_line_77 rfl rfl ?_
      refine s_getR 81 dX6_line_78 rfl fl_X6_27 (fun _ _ _ _ => rfl) (T_X6_tokens hT) sh_75 (Nat.le_of_ble_eq_true rfl) ?_
      refine s_ldcS 83 dX6_line_81 rfl (ks_X6_94) ?_
      refine s_callV0 (M' := M_X10_isWord) (as := [_]) 86 dX6_line_83 rfl cw_X6_82 rfl rfl sh_79 rfl (by decide) (Nat.le_of_ble_eq_true rfl) (Nat.le_of_ble_eq_true rfl) (Nat.le_of_ble_eq_true rfl) (Nat.le_of_ble_eq_true rfl) ⟨rfl, rfl, rfl⟩ ?_
      refine c_X10_isWord2 hT rfl u19 k0.2.2.2.2 ?_
      refine s_ifb_eq 113 89 dX6_line_86 rfl rfl (fun h_86 => ?_) (fun h_86 => by exfalso; exact absurd h_86 x2)
      refine s_aload_n 114 dX6_line_113 rfl rfl ?_
      refine s_getR 117 dX6_line_114 rfl fl_X6_27 (fun _ _ _ _ => rfl) (T_X6_tokens hT) sh_75 (Nat.le_of_ble_eq_true rfl) ?_
      refine s_ldcS 119 dX6_line_117 rfl (ks_X6_99) ?_
      refine s_callV0 (M' := M_X10_isWord) (as := [_]) 122 dX6_line_119 rfl cw_X6_82 rfl rfl sh_79 rfl (by decide) (Nat.le_of_ble_eq_true rfl) (Nat.le_of_ble_eq_true rfl) (Nat.le_of_ble_eq_true rfl) (Nat.le_of_ble_eq_true rfl) ⟨rfl, rfl, rfl⟩ ?_
      refine c_X10_isWord2 hT rfl u21 k0.2.2.2.2 ?_
      refine s_ifb_eq 150 125 dX6_line_122 rfl rfl (fun h_122 => ?_) (fun h_122 => by exfalso; exact absurd h_122 x3)
      refine s_aload_n 151 dX6_line_150 rfl rfl ?_
      refine s_getR 154 dX6_line_151 rfl fl_X6_27 (fun _ _ _ _ => rfl) (T_X6_tokens hT) sh_75 (Nat.le_of_ble_eq_true rfl) ?_
      refine s_ldcS 156 dX6_line_154 rfl (ks_X6_107) ?_
      refine s_callV0 (M' := M_X10_isWord) (as := [_]) 159 dX6_line_156 rfl cw_X6_82 rfl rfl sh_79 rfl (by decide) (Nat.le_of_ble_eq_true rfl) (Nat.le_of_ble_eq_true rfl) (Nat.le_of_ble_eq_true rfl) (Nat.le_of_ble_eq_true rfl) ⟨rfl, rfl, rfl⟩ ?_
      refine c_X10_isWord2 hT rfl u22 k0.2.2.2.2 ?_
      refine s_ifb_eq 187 162 dX6_line_159 rfl rfl (fun h_159 => by exfalso; exact absurd y4 h_159) (fun h_159 => ?_)
      refine s_aload_n 163 dX6_line_162 rfl rfl ?_
      refine s_getR 166 dX6_line_163 rfl fl_X6_31 (fun _ _ _ _ => rfl) (by assumption) sh_75 (Nat.le_of_ble_eq_true rfl) ?_
      refine s_getI 169 dX6_line_166 rfl fl_X6_109 (fun _ _ _ _ => rfl) (isP_sh (by assumption)) (isP_lt (by assumption)) (fun r_166 => ?_)
      rw [p6]
      refine s_bipush 171 dX6_line_169 rfl (by decide) ?_
      refine s_icmp_ge 181 174 dX6_line_171 rfl rfl (by first | omega | exact bI_r _ | exact iI_r _) (by first | omega | exact bI_r _ | exact iI_r _) (fun h_171 => by exfalso; omega) (fun h_171 => ?_)
      refine s_aload_n 175 dX6_line_174 rfl rfl ?_
      refine s_callV0 (M' := M_X6_onLine) (as := []) 178 dX6_line_175 rfl cw_X6_112 rfl rfl sh_75 rfl (by decide) (Nat.le_of_ble_eq_true rfl) (Nat.le_of_ble_eq_true rfl) (Nat.le_of_ble_eq_true rfl) (Nat.le_of_ble_eq_true rfl) ⟨rfl, rfl, rfl⟩ ?_
      refine c_X6_onLine hT hP hRP hn hb hW (by omega) k0 v0 (fun I2 L2 g1 g2 => ?_)
      refine s_goto 186 dX6_line_178 rfl ?_
      refine s_zret dX6_line_186 rfl (by first | omega | exact bI_b _) rfl ?_
      exact h I2 L2 (f0.tr g1) g2
    · have eb : bgO bt n (r 7 < 14) 5 a = .inl (5, a) := pick_f hC
      have e0 : onO bt n r (.inl (5, a)) = .inl (5, a) := rfl
      rw [e.1, eb, e0, isE_l] at h
      refine s_aload_n 1 dX6_line_0 rfl rfl ?_
      refine s_iconst 2 dX6_line_1 rfl ?_
      refine s_putI 5 dX6_line_2 rfl fl_X6_78 (fun _ => rfl) (fun _ => rfl) (fun _ _ _ _ => rfl) sh_75 (Nat.le_of_ble_eq_true rfl) (by first | omega | exact bI_r _ | exact iI_r _) ?_
      refine s_aload_n 6 dX6_line_5 rfl rfl ?_
      refine s_getR 9 dX6_line_6 rfl fl_X6_27 (fun _ _ _ _ => rfl) (T_X6_tokens hT) sh_75 (Nat.le_of_ble_eq_true rfl) ?_
      refine s_ldcS 11 dX6_line_9 rfl (ks_X6_81) ?_
      refine s_callV0 (M' := M_X10_isWord) (as := [_]) 14 dX6_line_11 rfl cw_X6_82 rfl rfl sh_79 rfl (by decide) (Nat.le_of_ble_eq_true rfl) (Nat.le_of_ble_eq_true rfl) (Nat.le_of_ble_eq_true rfl) (Nat.le_of_ble_eq_true rfl) ⟨rfl, rfl, rfl⟩ ?_
      refine c_X10_isWord2 hT rfl u0 k0.2.2.2.2 ?_
      refine s_ifb_eq 40 17 dX6_line_14 rfl rfl (fun h_14 => ?_) (fun h_14 => by exfalso; exact absurd h_14 x0)
      refine s_aload_n 41 dX6_line_40 rfl rfl ?_
      refine s_getR 44 dX6_line_41 rfl fl_X6_27 (fun _ _ _ _ => rfl) (T_X6_tokens hT) sh_75 (Nat.le_of_ble_eq_true rfl) ?_
      refine s_ldcS 46 dX6_line_44 rfl (ks_X6_89) ?_
      refine s_callV0 (M' := M_X10_isWord) (as := [_]) 49 dX6_line_46 rfl cw_X6_82 rfl rfl sh_79 rfl (by decide) (Nat.le_of_ble_eq_true rfl) (Nat.le_of_ble_eq_true rfl) (Nat.le_of_ble_eq_true rfl) (Nat.le_of_ble_eq_true rfl) ⟨rfl, rfl, rfl⟩ ?_
      refine c_X10_isWord2 hT rfl u4 k0.2.2.2.2 ?_
      refine s_ifb_eq 77 52 dX6_line_49 rfl rfl (fun h_49 => ?_) (fun h_49 => by exfalso; exact absurd h_49 x1)
      refine s_aload_n 78 dX6_line_77 rfl rfl ?_
      refine s_getR 81 dX6_line_78 rfl fl_X6_27 (fun _ _ _ _ => rfl) (T_X6_tokens hT) sh_75 (Nat.le_of_ble_eq_true rfl) ?_
      refine s_ldcS 83 dX6_line_81 rfl (ks_X6_94) ?_
      refine s_callV0 (M' := M_X10_isWord) (as := [_]) 86 dX6_line_83 rfl cw_X6_82 rfl rfl sh_79 rfl (by decide) (Nat.le_of_ble_eq_true rfl) (Nat.le_of_ble_eq_true rfl) (Nat.le_of_ble_eq_true rfl) (Nat.le_of_ble_eq_true rfl) ⟨rfl, rfl, rfl⟩ ?_
      refine c_X10_isWord2 hT rfl u19 k0.2.2.2.2 ?_
      refine s_ifb_eq 113 89 dX6_line_86 rfl rfl (fun h_86 => ?_) (fun h_86 => by exfalso; exact absurd h_86 x2)
      refine s_aload_n 114 dX6_line_113 rfl rfl ?_
      refine s_getR 117 dX6_line_114 rfl fl_X6_27 (fun _ _ _ _ => rfl) (T_X6_tokens hT) sh_75 (Nat.le_of_ble_eq_true rfl) ?_
      refine s_ldcS 119 dX6_line_117 rfl (ks_X6_99) ?_
      refine s_callV0 (M' := M_X10_isWord) (as := [_]) 122 dX6_line_119 rfl cw_X6_82 rfl rfl sh_79 rfl (by decide) (Nat.le_of_ble_eq_true rfl) (Nat.le_of_ble_eq_true rfl) (Nat.le_of_ble_eq_true rfl) (Nat.le_of_ble_eq_true rfl) ⟨rfl, rfl, rfl⟩ ?_
      refine c_X10_isWord2 hT rfl u21 k0.2.2.2.2 ?_
      refine s_ifb_eq 150 125 dX6_line_122 rfl rfl (fun h_122 => ?_) (fun h_122 => by exfalso; exact absurd h_122 x3)
      refine s_aload_n 151 dX6_line_150 rfl rfl ?_
      refine s_getR 154 dX6_line_151 rfl fl_X6_27 (fun _ _ _ _ => rfl) (T_X6_tokens hT) sh_75 (Nat.le_of_ble_eq_true rfl) ?_
      refine s_ldcS 156 dX6_line_154 rfl (ks_X6_107) ?_
      refine s_callV0 (M' := M_X10_isWord) (as := [_]) 159 dX6_line_156 rfl cw_X6_82 rfl rfl sh_79 rfl (by decide) (Nat.le_of_ble_eq_true rfl) (Nat.le_of_ble_eq_true rfl) (Nat.le_of_ble_eq_true rfl) (Nat.le_of_ble_eq_true rfl) ⟨rfl, rfl, rfl⟩ ?_
      refine c_X10_isWord2 hT rfl u22 k0.2.2.2.2 ?_
      refine s_ifb_eq 187 162 dX6_line_159 rfl rfl (fun h_159 => by exfalso; exact absurd y4 h_159) (fun h_159 => ?_)
      refine s_aload_n 163 dX6_line_162 rfl rfl ?_
      refine s_getR 166 dX6_line_163 rfl fl_X6_31 (fun _ _ _ _ => rfl) (by assumption) sh_75 (Nat.le_of_ble_eq_true rfl) ?_
      refine s_getI 169 dX6_line_166 rfl fl_X6_109 (fun _ _ _ _ => rfl) (isP_sh (by assumption)) (isP_lt (by assumption)) (fun r_166 => ?_)
      rw [p6]
      refine s_bipush 171 dX6_line_169 rfl (by decide) ?_
      refine s_icmp_ge 181 174 dX6_line_171 rfl rfl (by first | omega | exact bI_r _ | exact iI_r _) (by first | omega | exact bI_r _ | exact iI_r _) (fun h_171 => ?_) (fun h_171 => by exfalso; omega)
      refine s_aload_n 182 dX6_line_181 rfl rfl ?_
      refine s_iconst 183 dX6_line_182 rfl ?_
      refine s_callV0 (M' := M_X6_fail) (as := [_]) 186 dX6_line_183 rfl cw_X6_64 rfl rfl sh_75 rfl (by decide) (Nat.le_of_ble_eq_true rfl) (Nat.le_of_ble_eq_true rfl) (Nat.le_of_ble_eq_true rfl) (Nat.le_of_ble_eq_true rfl) ⟨rfl, rfl, rfl⟩ ?_
      refine c_X6_fail hT eT (by decide) ?_
      refine s_zret dX6_line_186 rfl (by first | omega | exact bI_b _) rfl ?_
      exact h _ _ ((f0.fs (by decide)).fs (by decide)) (RdO.fl k0.1)
  · have e := li_5 (r := r) k
    by_cases hC : r 8 < 7
    · have eb : bgO bt n (r 8 < 7) 5 a = .inr (nxE bt n a) := pick_t hC
      rw [e.1, e.2, eb] at h
      refine s_aload_n 1 dX6_line_0 rfl rfl ?_
      refine s_iconst 2 dX6_line_1 rfl ?_
      refine s_putI 5 dX6_line_2 rfl fl_X6_78 (fun _ => rfl) (fun _ => rfl) (fun _ _ _ _ => rfl) sh_75 (Nat.le_of_ble_eq_true rfl) (by first | omega | exact bI_r _ | exact iI_r _) ?_
      refine s_aload_n 6 dX6_line_5 rfl rfl ?_
      refine s_getR 9 dX6_line_6 rfl fl_X6_27 (fun _ _ _ _ => rfl) (T_X6_tokens hT) sh_75 (Nat.le_of_ble_eq_true rfl) ?_
      refine s_ldcS 11 dX6_line_9 rfl (ks_X6_81) ?_
      refine s_callV0 (M' := M_X10_isWord) (as := [_]) 14 dX6_line_11 rfl cw_X6_82 rfl rfl sh_79 rfl (by decide) (Nat.le_of_ble_eq_true rfl) (Nat.le_of_ble_eq_true rfl) (Nat.le_of_ble_eq_true rfl) (Nat.le_of_ble_eq_true rfl) ⟨rfl, rfl, rfl⟩ ?_
      refine c_X10_isWord2 hT rfl u0 k0.2.2.2.2 ?_
      refine s_ifb_eq 40 17 dX6_line_14 rfl rfl (fun h_14 => ?_) (fun h_14 => by exfalso; exact absurd h_14 x0)
      refine s_aload_n 41 dX6_line_40 rfl rfl ?_
      refine s_getR 44 dX6_line_41 rfl fl_X6_27 (fun _ _ _ _ => rfl) (T_X6_tokens hT) sh_75 (Nat.le_of_ble_eq_true rfl) ?_
      refine s_ldcS 46 dX6_line_44 rfl (ks_X6_89) ?_
      refine s_callV0 (M' := M_X10_isWord) (as := [_]) 49 dX6_line_46 rfl cw_X6_82 rfl rfl sh_79 rfl (by decide) (Nat.le_of_ble_eq_true rfl) (Nat.le_of_ble_eq_true rfl) (Nat.le_of_ble_eq_true rfl) (Nat.le_of_ble_eq_true rfl) ⟨rfl, rfl, rfl⟩ ?_
      refine c_X10_isWord2 hT rfl u4 k0.2.2.2.2 ?_
      refine s_ifb_eq 77 52 dX6_line_49 rfl rfl (fun h_49 => ?_) (fun h_49 => by exfalso; exact absurd h_49 x1)
      refine s_aload_n 78 dX6_line_77 rfl rfl ?_
      refine s_getR 81 dX6_line_78 rfl fl_X6_27 (fun _ _ _ _ => rfl) (T_X6_tokens hT) sh_75 (Nat.le_of_ble_eq_true rfl) ?_
      refine s_ldcS 83 dX6_line_81 rfl (ks_X6_94) ?_
      refine s_callV0 (M' := M_X10_isWord) (as := [_]) 86 dX6_line_83 rfl cw_X6_82 rfl rfl sh_79 rfl (by decide) (Nat.le_of_ble_eq_true rfl) (Nat.le_of_ble_eq_true rfl) (Nat.le_of_ble_eq_true rfl) (Nat.le_of_ble_eq_true rfl) ⟨rfl, rfl, rfl⟩ ?_
      refine c_X10_isWord2 hT rfl u19 k0.2.2.2.2 ?_
      refine s_ifb_eq 113 89 dX6_line_86 rfl rfl (fun h_86 => ?_) (fun h_86 => by exfalso; exact absurd h_86 x2)
      refine s_aload_n 114 dX6_line_113 rfl rfl ?_
      refine s_getR 117 dX6_line_114 rfl fl_X6_27 (fun _ _ _ _ => rfl) (T_X6_tokens hT) sh_75 (Nat.le_of_ble_eq_true rfl) ?_
      refine s_ldcS 119 dX6_line_117 rfl (ks_X6_99) ?_
      refine s_callV0 (M' := M_X10_isWord) (as := [_]) 122 dX6_line_119 rfl cw_X6_82 rfl rfl sh_79 rfl (by decide) (Nat.le_of_ble_eq_true rfl) (Nat.le_of_ble_eq_true rfl) (Nat.le_of_ble_eq_true rfl) (Nat.le_of_ble_eq_true rfl) ⟨rfl, rfl, rfl⟩ ?_
      refine c_X10_isWord2 hT rfl u21 k0.2.2.2.2 ?_
      refine s_ifb_eq 150 125 dX6_line_122 rfl rfl (fun h_122 => ?_) (fun h_122 => by exfalso; exact absurd h_122 x3)
      refine s_aload_n 151 dX6_line_150 rfl rfl ?_
      refine s_getR 154 dX6_line_151 rfl fl_X6_27 (fun _ _ _ _ => rfl) (T_X6_tokens hT) sh_75 (Nat.le_of_ble_eq_true rfl) ?_
      refine s_ldcS 156 dX6_line_154 rfl (ks_X6_107) ?_
      refine s_callV0 (M' := M_X10_isWord) (as := [_]) 159 dX6_line_156 rfl cw_X6_82 rfl rfl sh_79 rfl (by decide) (Nat.le_of_ble_eq_true rfl) (Nat.le_of_ble_eq_true rfl) (Nat.le_of_ble_eq_true rfl) (Nat.le_of_ble_eq_true rfl) ⟨rfl, rfl, rfl⟩ ?_
      refine c_X10_isWord2 hT rfl u22 k0.2.2.2.2 ?_
      refine s_ifb_eq 187 162 dX6_line_159 rfl rfl (fun h_159 => ?_) (fun h_159 => by exfalso; exact absurd h_159 x4)
      refine s_aload_n 188 dX6_line_187 rfl rfl ?_
      refine s_getR 191 dX6_line_188 rfl fl_X6_27 (fun _ _ _ _ => rfl) (T_X6_tokens hT) sh_75 (Nat.le_of_ble_eq_true rfl) ?_
      refine s_ldcS 193 dX6_line_191 rfl (ks_X6_115) ?_
      refine s_callV0 (M' := M_X10_isWord) (as := [_]) 196 dX6_line_193 rfl cw_X6_82 rfl rfl sh_79 rfl (by decide) (Nat.le_of_ble_eq_true rfl) (Nat.le_of_ble_eq_true rfl) (Nat.le_of_ble_eq_true rfl) (Nat.le_of_ble_eq_true rfl) ⟨rfl, rfl, rfl⟩ ?_
      refine c_X10_isWord2 hT rfl u27 k0.2.2.2.2 ?_
      refine s_ifb_eq 224 199 dX6_line_196 rfl rfl (fun h_196 => by exfalso; exact absurd y5 h_196) (fun h_196 => ?_)
      refine s_aload_n 200 dX6_line_199 rfl rfl ?_
      refine s_getR 203 dX6_line_200 rfl fl_X6_31 (fun _ _ _ _ => rfl) (by assumption) sh_75 (Nat.le_of_ble_eq_true rfl) ?_
      refine s_getI 206 dX6_line_203 rfl fl_X6_117 (fun _ _ _ _ => rfl) (isP_sh (by assumption)) (isP_lt (by assumption)) (fun r_203 => ?_)
      rw [p7]
      refine s_bipush 208 dX6_line_206 rfl (by decide) ?_
      refine s_icmp_ge 218 211 dX6_line_208 rfl rfl (by first | omega | exact bI_r _ | exact iI_r _) (by first | omega | exact bI_r _ | exact iI_r _) (fun h_208 => by exfalso; omega) (fun h_208 => ?_)
      refine s_aload_n 212 dX6_line_211 rfl rfl ?_
      refine s_callV0 (M' := M_X6_sawLine) (as := []) 215 dX6_line_212 rfl cw_X6_120 rfl rfl sh_75 rfl (by decide) (Nat.le_of_ble_eq_true rfl) (Nat.le_of_ble_eq_true rfl) (Nat.le_of_ble_eq_true rfl) (Nat.le_of_ble_eq_true rfl) ⟨rfl, rfl, rfl⟩ ?_
      refine c_X6_sawLine hT hP hRP hn hb hW (by omega) k0 v0 (fun I2 L2 g1 g2 => ?_)
      refine s_goto 223 dX6_line_215 rfl ?_
      refine s_zret dX6_line_223 rfl (by first | omega | exact bI_b _) rfl ?_
      exact h I2 L2 (f0.tr g1) g2
    · have eb : bgO bt n (r 8 < 7) 5 a = .inl (5, a) := pick_f hC
      have e0 : swO bt n r (.inl (5, a)) = .inl (5, a) := rfl
      rw [e.1, eb, e0, isE_l] at h
      refine s_aload_n 1 dX6_line_0 rfl rfl ?_
      refine s_iconst 2 dX6_line_1 rfl ?_
      refine s_putI 5 dX6_line_2 rfl fl_X6_78 (fun _ => rfl) (fun _ => rfl) (fun _ _ _ _ => rfl) sh_75 (Nat.le_of_ble_eq_true rfl) (by first | omega | exact bI_r _ | exact iI_r _) ?_
      refine s_aload_n 6 dX6_line_5 rfl rfl ?_
      refine s_getR 9 dX6_line_6 rfl fl_X6_27 (fun _ _ _ _ => rfl) (T_X6_tokens hT) sh_75 (Nat.le_of_ble_eq_true rfl) ?_
      refine s_ldcS 11 dX6_line_9 rfl (ks_X6_81) ?_
      refine s_callV0 (M' := M_X10_isWord) (as := [_]) 14 dX6_line_11 rfl cw_X6_82 rfl rfl sh_79 rfl (by decide) (Nat.le_of_ble_eq_true rfl) (Nat.le_of_ble_eq_true rfl) (Nat.le_of_ble_eq_true rfl) (Nat.le_of_ble_eq_true rfl) ⟨rfl, rfl, rfl⟩ ?_
      refine c_X10_isWord2 hT rfl u0 k0.2.2.2.2 ?_
      refine s_ifb_eq 40 17 dX6_line_14 rfl rfl (fun h_14 => ?_) (fun h_14 => by exfalso; exact absurd h_14 x0)
      refine s_aload_n 41 dX6_line_40 rfl rfl ?_
      refine s_getR 44 dX6_line_41 rfl fl_X6_27 (fun _ _ _ _ => rfl) (T_X6_tokens hT) sh_75 (Nat.le_of_ble_eq_true rfl) ?_
      refine s_ldcS 46 dX6_line_44 rfl (ks_X6_89) ?_
      refine s_callV0 (M' := M_X10_isWord) (as := [_]) 49 dX6_line_46 rfl cw_X6_82 rfl rfl sh_79 rfl (by decide) (Nat.le_of_ble_eq_true rfl) (Nat.le_of_ble_eq_true rfl) (Nat.le_of_ble_eq_true rfl) (Nat.le_of_ble_eq_true rfl) ⟨rfl, rfl, rfl⟩ ?_
      refine c_X10_isWord2 hT rfl u4 k0.2.2.2.2 ?_
      refine s_ifb_eq 77 52 dX6_line_49 rfl rfl (fun h_49 => ?_) (fun h_49 => by exfalso; exact absurd h_49 x1)
      refine s_aload_n 78 dX6_line_77 rfl rfl ?_
      refine s_getR 81 dX6_line_78 rfl fl_X6_27 (fun _ _ _ _ => rfl) (T_X6_tokens hT) sh_75 (Nat.le_of_ble_eq_true rfl) ?_
      refine s_ldcS 83 dX6_line_81 rfl (ks_X6_94) ?_
      refine s_callV0 (M' := M_X10_isWord) (as := [_]) 86 dX6_line_83 rfl cw_X6_82 rfl rfl sh_79 rfl (by decide) (Nat.le_of_ble_eq_true rfl) (Nat.le_of_ble_eq_true rfl) (Nat.le_of_ble_eq_true rfl) (Nat.le_of_ble_eq_true rfl) ⟨rfl, rfl, rfl⟩ ?_
      refine c_X10_isWord2 hT rfl u19 k0.2.2.2.2 ?_
      refine s_ifb_eq 113 89 dX6_line_86 rfl rfl (fun h_86 => ?_) (fun h_86 => by exfalso; exact absurd h_86 x2)
      refine s_aload_n 114 dX6_line_113 rfl rfl ?_
      refine s_getR 117 dX6_line_114 rfl fl_X6_27 (fun _ _ _ _ => rfl) (T_X6_tokens hT) sh_75 (Nat.le_of_ble_eq_true rfl) ?_
      refine s_ldcS 119 dX6_line_117 rfl (ks_X6_99) ?_
      refine s_callV0 (M' := M_X10_isWord) (as := [_]) 122 dX6_line_119 rfl cw_X6_82 rfl rfl sh_79 rfl (by decide) (Nat.le_of_ble_eq_true rfl) (Nat.le_of_ble_eq_true rfl) (Nat.le_of_ble_eq_true rfl) (Nat.le_of_ble_eq_true rfl) ⟨rfl, rfl, rfl⟩ ?_
      refine c_X10_isWord2 hT rfl u21 k0.2.2.2.2 ?_
      refine s_ifb_eq 150 125 dX6_line_122 rfl rfl (fun h_122 => ?_) (fun h_122 => by exfalso; exact absurd h_122 x3)
      refine s_aload_n 151 dX6_line_150 rfl rfl ?_
      refine s_getR 154 dX6_line_151 rfl fl_X6_27 (fun _ _ _ _ => rfl) (T_X6_tokens hT) sh_75 (Nat.le_of_ble_eq_true rfl) ?_
      refine s_ldcS 156 dX6_line_154 rfl (ks_X6_107) ?_
      refine s_callV0 (M' := M_X10_isWord) (as := [_]) 159 dX6_line_156 rfl cw_X6_82 rfl rfl sh_79 rfl (by decide) (Nat.le_of_ble_eq_true rfl) (Nat.le_of_ble_eq_true rfl) (Nat.le_of_ble_eq_true rfl) (Nat.le_of_ble_eq_true rfl) ⟨rfl, rfl, rfl⟩ ?_
      refine c_X10_isWord2 hT rfl u22 k0.2.2.2.2 ?_
      refine s_ifb_eq 187 162 dX6_line_159 rfl rfl (fun h_159 => ?_) (fun h_159 => by exfalso; exact absurd h_159 x4)
      refine s_aload_n 188 dX6_line_187 rfl rfl ?_
      refine s_getR 191 dX6_line_188 rfl fl_X6_27 (fun _ _ _ _ => rfl) (T_X6_tokens hT) sh_75 (Nat.le_of_ble_eq_true rfl) ?_
      refine s_ldcS 193 dX6_line_191 rfl (ks_X6_115) ?_
      refine s_callV0 (M' := M_X10_isWord) (as := [_]) 196 dX6_line_193 rfl cw_X6_82 rfl rfl sh_79 rfl (by decide) (Nat.le_of_ble_eq_true rfl) (Nat.le_of_ble_eq_true rfl) (Nat.le_of_ble_eq_true rfl) (Nat.le_of_ble_eq_true rfl) ⟨rfl, rfl, rfl⟩ ?_
      refine c_X10_isWord2 hT rfl u27 k0.2.2.2.2 ?_
      refine s_ifb_eq 224 199 dX6_line_196 rfl rfl (fun h_196 => by exfalso; exact absurd y5 h_196) (fun h_196 => ?_)
      refine s_aload_n 200 dX6_line_199 rfl rfl ?_
      refine s_getR 203 dX6_line_200 rfl fl_X6_31 (fun _ _ _ _ => rfl) (by assumption) sh_75 (Nat.le_of_ble_eq_true rfl) ?_
      refine s_getI 206 dX6_line_203 rfl fl_X6_117 (fun _ _ _ _ => rfl) (isP_sh (by assumption)) (isP_lt (by assumption)) (fun r_203 => ?_)
      rw [p7]
      refine s_bipush 208 dX6_line_206 rfl (by decide) ?_
      refine s_icmp_ge 218 211 dX6_line_208 rfl rfl (by first | omega | exact bI_r _ | exact iI_r _) (by first | omega | exact bI_r _ | exact iI_r _) (fun h_208 => ?_) (fun h_208 => by exfalso; omega)
      refine s_aload_n 219 dX6_line_218 rfl rfl ?_
      refine s_iconst 220 dX6_line_219 rfl ?_
      refine s_callV0 (M' := M_X6_fail) (as := [_]) 223 dX6_line_220 rfl cw_X6_64 rfl rfl sh_75 rfl (by decide) (Nat.le_of_ble_eq_true rfl) (Nat.le_of_ble_eq_true rfl) (Nat.le_of_ble_eq_true rfl) (Nat.le_of_ble_eq_true rfl) ⟨rfl, rfl, rfl⟩ ?_
      refine c_X6_fail hT eT (by decide) ?_
      refine s_zret dX6_line_223 rfl (by first | omega | exact bI_b _) rfl ?_
      exact h _ _ ((f0.fs (by decide)).fs (by decide)) (RdO.fl k0.1)
  · rw [li_6 k, isE_l] at h
    refine s_aload_n 1 dX6_line_0 rfl rfl ?_
    refine s_iconst 2 dX6_line_1 rfl ?_
    refine s_putI 5 dX6_line_2 rfl fl_X6_78 (fun _ => rfl) (fun _ => rfl) (fun _ _ _ _ => rfl) sh_75 (Nat.le_of_ble_eq_true rfl) (by first | omega | exact bI_r _ | exact iI_r _) ?_
    refine s_aload_n 6 dX6_line_5 rfl rfl ?_
    refine s_getR 9 dX6_line_6 rfl fl_X6_27 (fun _ _ _ _ => rfl) (T_X6_tokens hT) sh_75 (Nat.le_of_ble_eq_true rfl) ?_
    refine s_ldcS 11 dX6_line_9 rfl (ks_X6_81) ?_
    refine s_callV0 (M' := M_X10_isWord) (as := [_]) 14 dX6_line_11 rfl cw_X6_82 rfl rfl sh_79 rfl (by decide) (Nat.le_of_ble_eq_true rfl) (Nat.le_of_ble_eq_true rfl) (Nat.le_of_ble_eq_true rfl) (Nat.le_of_ble_eq_true rfl) ⟨rfl, rfl, rfl⟩ ?_
    refine c_X10_isWord2 hT rfl u0 k0.2.2.2.2 ?_
    refine s_ifb_eq 40 17 dX6_line_14 rfl rfl (fun h_14 => ?_) (fun h_14 => by exfalso; exact absurd h_14 x0)
    refine s_aload_n 41 dX6_line_40 rfl rfl ?_
    refine s_getR 44 dX6_line_41 rfl fl_X6_27 (fun _ _ _ _ => rfl) (T_X6_tokens hT) sh_75 (Nat.le_of_ble_eq_true rfl) ?_
    refine s_ldcS 46 dX6_line_44 rfl (ks_X6_89) ?_
    refine s_callV0 (M' := M_X10_isWord) (as := [_]) 49 dX6_line_46 rfl cw_X6_82 rfl rfl sh_79 rfl (by decide) (Nat.le_of_ble_eq_true rfl) (Nat.le_of_ble_eq_true rfl) (Nat.le_of_ble_eq_true rfl) (Nat.le_of_ble_eq_true rfl) ⟨rfl, rfl, rfl⟩ ?_
    refine c_X10_isWord2 hT rfl u4 k0.2.2.2.2 ?_
    refine s_ifb_eq 77 52 dX6_line_49 rfl rfl (fun h_49 => ?_) (fun h_49 => by exfalso; exact absurd h_49 x1)
    refine s_aload_n 78 dX6_line_77 rfl rfl ?_
    refine s_getR 81 dX6_line_78 rfl fl_X6_27 (fun _ _ _ _ => rfl) (T_X6_tokens hT) sh_75 (Nat.le_of_ble_eq_true rfl) ?_
    refine s_ldcS 83 dX6_line_81 rfl (ks_X6_94) ?_
    refine s_callV0 (M' := M_X10_isWord) (as := [_]) 86 dX6_line_83 rfl cw_X6_82 rfl rfl sh_79 rfl (by decide) (Nat.le_of_ble_eq_true rfl) (Nat.le_of_ble_eq_true rfl) (Nat.le_of_ble_eq_true rfl) (Nat.le_of_ble_eq_true rfl) ⟨rfl, rfl, rfl⟩ ?_
    refine c_X10_isWord2 hT rfl u19 k0.2.2.2.2 ?_
    refine s_ifb_eq 113 89 dX6_line_86 rfl rfl (fun h_86 => ?_) (fun h_86 => by exfalso; exact absurd h_86 x2)
    refine s_aload_n 114 dX6_line_113 rfl rfl ?_
    refine s_getR 117 dX6_line_114 rfl fl_X6_27 (fun _ _ _ _ => rfl) (T_X6_tokens hT) sh_75 (Nat.le_of_ble_eq_true rfl) ?_
    refine s_ldcS 119 dX6_line_117 rfl (ks_X6_99) ?_
    refine s_callV0 (M' := M_X10_isWord) (as := [_]) 122 dX6_line_119 rfl cw_X6_82 rfl rfl sh_79 rfl (by decide) (Nat.le_of_ble_eq_true rfl) (Nat.le_of_ble_eq_true rfl) (Nat.le_of_ble_eq_true rfl) (Nat.le_of_ble_eq_true rfl) ⟨rfl, rfl, rfl⟩ ?_
    refine c_X10_isWord2 hT rfl u21 k0.2.2.2.2 ?_
    refine s_ifb_eq 150 125 dX6_line_122 rfl rfl (fun h_122 => ?_) (fun h_122 => by exfalso; exact absurd h_122 x3)
    refine s_aload_n 151 dX6_line_150 rfl rfl ?_
    refine s_getR 154 dX6_line_151 rfl fl_X6_27 (fun _ _ _ _ => rfl) (T_X6_tokens hT) sh_75 (Nat.le_of_ble_eq_true rfl) ?_
    refine s_ldcS 156 dX6_line_154 rfl (ks_X6_107) ?_
    refine s_callV0 (M' := M_X10_isWord) (as := [_]) 159 dX6_line_156 rfl cw_X6_82 rfl rfl sh_79 rfl (by decide) (Nat.le_of_ble_eq_true rfl) (Nat.le_of_ble_eq_true rfl) (Nat.le_of_ble_eq_true rfl) (Nat.le_of_ble_eq_true rfl) ⟨rfl, rfl, rfl⟩ ?_
    refine c_X10_isWord2 hT rfl u22 k0.2.2.2.2 ?_
    refine s_ifb_eq 187 162 dX6_line_159 rfl rfl (fun h_159 => ?_) (fun h_159 => by exfalso; exact absurd h_159 x4)
    refine s_aload_n 188 dX6_line_187 rfl rfl ?_
    refine s_getR 191 dX6_line_188 rfl fl_X6_27 (fun _ _ _ _ => rfl) (T_X6_tokens hT) sh_75 (Nat.le_of_ble_eq_true rfl) ?_
    refine s_ldcS 193 dX6_line_191 rfl (ks_X6_115) ?_
    refine s_callV0 (M' := M_X10_isWord) (as := [_]) 196 dX6_line_193 rfl cw_X6_82 rfl rfl sh_79 rfl (by decide) (Nat.le_of_ble_eq_true rfl) (Nat.le_of_ble_eq_true rfl) (Nat.le_of_ble_eq_true rfl) (Nat.le_of_ble_eq_true rfl) ⟨rfl, rfl, rfl⟩ ?_
    refine c_X10_isWord2 hT rfl u27 k0.2.2.2.2 ?_
    refine s_ifb_eq 224 199 dX6_line_196 rfl rfl (fun h_196 => ?_) (fun h_196 => by exfalso; exact absurd h_196 x5)
    refine s_aload_n 225 dX6_line_224 rfl rfl ?_
    refine s_iconst 226 dX6_line_225 rfl ?_
    refine s_callV0 (M' := M_X6_fail) (as := [_]) 229 dX6_line_226 rfl cw_X6_64 rfl rfl sh_75 rfl (by decide) (Nat.le_of_ble_eq_true rfl) (Nat.le_of_ble_eq_true rfl) (Nat.le_of_ble_eq_true rfl) (Nat.le_of_ble_eq_true rfl) ⟨rfl, rfl, rfl⟩ ?_
    refine c_X6_fail hT eT (by decide) ?_
    refine s_zret dX6_line_229 rfl (by first | omega | exact bI_b _) rfl ?_
    exact h _ _ ((f0.fs (by decide)).fs (by decide)) (RdO.fl k0.1)
