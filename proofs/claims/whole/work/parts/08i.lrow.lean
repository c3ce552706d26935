/-! the law's rows: the script; equal answers; the call of its led -/
/-- the script: Ls ints, at the address gs 3 0, below the base -/
def ScX (X : XT) (Ls : Int) (sc : Int → Int) : Prop := ∃ (n : Nat) (ys : Nat → Int32), Ls = (n : Int) ∧ n ≤ 3072 ∧ gs (xG X) 3 0 < gb (xG X) ∧ gb (xG X) = (gH (xG X)).size ∧ va_X (gs (xG X) 3 0) n ys (xs X) (gH (xG X)) ∧ ∀ j : Int, sc j = (ys j.toNat).toInt
theorem ScX.r {X : XT} {Ls : Int} {sc : Int → Int} (h : ScX X Ls sc) (j : Int) : -2147483648 ≤ sc j ∧ sc j ≤ 2147483647 := by
  obtain ⟨n, ys, -, -, -, -, -, e⟩ := h
  rw [e j]
  exact iI_r _
theorem s_sld {X : XT} {M : MT} {z : Nat × Nat × Nat} {pc : Nat} {ls : List (Option AV)} {st : List AV} {I : MI} {L : ML} {R : MR} {F : State → Prop} {Ls : Int} {sc : Int → Int} {j : Int} (q : Nat) (hd : decode (mcc M) pc = .ok (.iaload, 1)) (hq : pc + 1 = q) (hS : ScX X Ls sc) (hj : 0 ≤ j ∧ j < Ls) (k : V X M z q ls (vi (sc j) :: st) I L R F) : V X M z pc ls (vi j :: vq 3 0 :: st) I L R F := by
  subst hq
  obtain ⟨n, ys, e1, e2, e3, e4, e5, e6⟩ := hS
  intro ok h1 h2 H locs la hR hl hz hv
  have hsz := hR.1.1
  have hSv : va_S (gA9 (xG X)) (gH (xG X)) H locs := ⟨by omega, fun q hq hA => hR.2.1 q (Nat.not_le.mp hA), hl⟩
  refine va_sld (b := gs (xG X) 3 0) ok.1 ok.2.1 e5 (by omega) (Nat.not_le.mpr e3) hSv (i := iI j) (iI_in (by omega) (by omega)) hd ?_
  have e9 : iI (sc j) = ys (iI j).toNatClampNeg := by rw [iI_c (by omega), e6 j, iI_of]
  rw [← e9]
  exact k ok h1 h2 H locs la hR hl hz hv
theorem s_slen {X : XT} {M : MT} {z : Nat × Nat × Nat} {pc : Nat} {ls : List (Option AV)} {st : List AV} {I : MI} {L : ML} {R : MR} {F : State → Prop} {Ls : Int} {sc : Int → Int} (q : Nat) (hd : decode (mcc M) pc = .ok (.arraylength, 1)) (hq : pc + 1 = q) (hS : ScX X Ls sc) (k : V X M z q ls (vi Ls :: st) I L R F) : V X M z pc ls (vq 3 0 :: st) I L R F := by
  subst hq
  obtain ⟨n, ys, e1, e2, e3, e4, e5, e6⟩ := hS
  subst e1
  intro ok h1 h2 H locs la hR hl hz hv
  have hsz := hR.1.1
  have hSv : va_S (gA9 (xG X)) (gH (xG X)) H locs := ⟨by omega, fun q hq hA => hR.2.1 q (Nat.not_le.mp hA), hl⟩
  refine va_slen (b := gs (xG X) 3 0) ok.1 ok.2.1 e5 (by omega) (Nat.not_le.mpr e3) hSv hd ?_
  rw [show Int32.ofNat n = iI (n : Int) from (iI_nat n).symm]
  exact k ok h1 h2 H locs la hR hl hz hv
theorem s_icmp_same {X : XT} {M : MT} {z : Nat × Nat × Nat} {pc : Nat} {ls : List (Option AV)} {st : List AV} {I : MI} {L : ML} {R : MR} {F : State → Prop} {x off : Int} (t : Nat) (hd : decode (mcc M) pc = .ok (.if_icmp .eq off, 3)) (ht : (pc : Int) + off = (t : Int)) (k : V X M z t ls st I L R F) : V X M z pc ls (vi x :: vi x :: st) I L R F := by
  intro ok h1 h2 H locs la hR hl hz hv
  exact lv_icmp_eq ok.1 ok.2.1 hd ht (fun _ => k ok h1 h2 H locs la hR hl hz hv) (fun e => absurd rfl e)
theorem lgc_self (x : Int64) : (lg_cmp x x).toInt = 0 := by
  unfold lg_cmp
  rw [if_neg (Int64.lt_irrefl), if_pos rfl]
  rfl
abbrev M_L_law : MT := (cL_law, R_law9, 40, 7, ret, false, 601024, 7293034, 161)
theorem q0 : (0 : Nat) < 161 := by decide
theorem q138 : (138 : Nat) < 161 := by decide
theorem q160 : (160 : Nat) < 161 := by decide
theorem ct_eq {E : ET} {M : MT} {n0 : Nat} {y : MethodName} {as as' : List AV} {I : MI} {L : ML} {R : MR} {Q : Option AV → MI → ML → MR → Prop} (h : CT E M n0 y as' I L R Q) (e : as = as') : CT E M n0 y as I L R Q := by rw [e]; exact h
theorem MV.ers {I : MI} {bt : F1} {n ft pl w : Int} {HP : Prop} {r s : F1} {U D K : List (List Int)} (h : MV I bt n ft pl w HP r s U D K) : I 141 = r ∧ I 143 = s ∧ I 138 30 = -1 ∧ I 138 14 = bI HP := ⟨h.2.2.1, h.2.2.2.1, h.2.1, h.1.2.2.2.2.2⟩
theorem CV.hr {I : MI} {L : ML} {R : MR} {m : Int} {bt : F1} {n ft pl w : Int} {HP : Prop} {r s : F1} {a : List Int} {U D K : List (List Int)} {P P' : Nat} (h : CV I L R m bt n ft pl w HP r s a U D K P P') : HP → SOk r s a := fun z => (h.2.2.2.2.2.2.1 z).1
theorem CV.nn {I : MI} {L : ML} {R : MR} {m : Int} {bt : F1} {n ft pl w : Int} {HP : Prop} {r s : F1} {a : List Int} {U D K : List (List Int)} {P P' : Nat} (h : CV I L R m bt n ft pl w HP r s a U D K P P') : 0 ≤ n ∧ n ≤ 900 := h.2.1.2.1
theorem wL_led : ∀ w ∈ va_wsS R_law9 195 yL_led [.codeWith yL_led cL_led 5 (some .int) hhL], w ∈ TB :=
  List.forall_mem_cons.mpr ⟨TB_of (by decide +kernel) rfl, List.forall_mem_cons.mpr ⟨TB_of (by decide +kernel) rfl, List.forall_mem_cons.mpr ⟨TB_of (by decide +kernel) rfl, List.forall_mem_cons.mpr ⟨TB_of (by decide +kernel) rfl, fun _ h => absurd h List.not_mem_nil⟩⟩⟩⟩
/-- the law calls its led -/
theorem s_callL {X : XT} {c9 s9 : Nat} {ls : List (Option AV)} {I : MI} {L : ML} {R : MR} {F : State → Prop} {p i : Int} (hKT : KT (xG X) (xs X)) (hz1 : c9 + 1 ≤ 601024) (hz2 : s9 + 6 ≤ 7293034)
    (k : CTL (xE X) [(vr (0)), (vi (p)), (vi (i)), (vr 160)] I L R (fun r I' L' R' => V X M_L_law (c9 + 1, s9 + 6, 161) 1339 ls (psh r []) I' L' R' F)) : V X M_L_law (c9, s9, 161) 1336 ls [vr 160, vi i, vi p, vr 0] I L R F := by
  intro ok h1 h2 H locs la hR hl hz hv
  have a1 : 40 ≤ (xR X).frames := ok.2.2.2.2.2.2.2.2.2.1
  have a2 : 60 * 40 ≤ (xR X).locals := ok.2.2.2.2.2.2.2.2.2.2.1
  have a3 : 601024 ≤ (xR X).cells := ok.2.2.2.2.2.2.2.2.2.2.2.1
  have a4 : 7293034 ≤ (xR X).slots := ok.2.2.2.2.2.2.2.2.2.2.2.2.1
  have hRm : (rmM M_L_led).frames + 1 ≤ (xR X).frames ∧ 8 + (5 + 11) + (rmM M_L_led).locals ≤ (xR X).locals := by
    show 12 + 1 ≤ _ ∧ 8 + (5 + 11) + 60 * 12 ≤ _
    omega
  have hP9 : ∀ U : State, U.heap = H → (xs X).WarmedH U.vm → PcX (xG X) 161 [(vr (0)), (vi (p)), (vi (i)), (vr 160)] I L R (List.map (cv (xG X)) [(vr (0)), (vi (p)), (vi (i)), (vr 160)]).toArray U := fun U hU hW => ⟨⟨rfl, by rw [hU]; exact hR, KF.warm hW ok.2.2.2.2.2.2.2.2.1⟩, KT.warm hW hKT⟩
  exact call_go (M' := M_L_led) (st := []) (z := (c9, s9, 161)) (q := 1339) ok rfl hl hz hv hz1 hz2 (vx_runSW (hh := hhL) (As := [(vr (0)), (vi (p)), (vi (i)), (vr 160)].map (cv (xG X))) (n := 4) ⟨ok.1, ok.2.1, ok.2.2.1, ok.2.2.2.1, ok.2.2.2.2.1⟩ k (vx_cwSW 4 ok.2.2.2.2.1 (goodTB (in_ap (b := []) wL_led)) rfl rfl rfl (by decide +kernel) hRm) ⟨PcX_blind, hP9⟩ rfl rfl hv.1 rfl (lv_room (Nat.zero_le _)) dL_law_1336 ⟨Nat.le_trans hz1 a3, Nat.le_trans hz2 a4⟩)
