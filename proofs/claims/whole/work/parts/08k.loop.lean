/-! the law's loop -/
theorem Jb.mo {I : MI} {L : ML} {R : MR} {m m' : Int} (h : Jb I L R m) (hm : m ≤ m') : Jb I L R m' := by
  obtain ⟨bt, n, ft, pl, w, HP, r, s, a, U, D, K, P, P', hT, hC, hM, hN⟩ := h
  exact ⟨_, _, _, _, _, _, _, _, _, _, _, _, _, _, hT, hC.mo hm, hM, hN⟩
set_option maxHeartbeats 8000000 in
theorem lw_loop {X : XT} {F : State → Prop} {Ls : Int} {sc : Int → Int} (hS : ScX X Ls sc) (hLs : 0 ≤ Ls ∧ Ls ≤ 3072) (hKT : KT (xG X) (xs X)) (hfl : (xl X).stackTraces = false) (hend : ∀ (c' s' : Nat) (ls : List (Option AV)) (I : MI) (L : ML) (R : MR), V X M_L_law (c', s', 161) 1434 ls [] I L R F) :
    ∀ (f : Nat) (c9 s9 : Nat) (i m : Int) (w5 w6 : Option AV) (I : MI) (L : ML) (R : MR), Ls - i < 6 * (f : Int) → 0 ≤ i → i ≤ Ls → c9 + f ≤ 601024 → s9 + 6 * f ≤ 7293034 → 0 ≤ m → m + 8 * (f : Int) ≤ 900000 → Jb I L R m → V X M_L_law (c9, s9, 161) 23 [some (vq 3 0), some (vr 0), some (vr 138), some (vr 160), some (vi i), w5, w6] [] I L R F := by
  intro f
  induction f with
  | zero => intro c9 s9 i m w5 w6 I L R h1 h2 h3; exfalso; omega
  | succ f ih =>
    intro c9 s9 i m w5 w6 I L R h1 h2 h3 h4 h5 h6 h7 hJ
    refine s_iload 25 dL_law_23 rfl rfl ?_
    refine s_aloadq_n 26 dL_law_25 rfl rfl ?_
    refine s_slen 27 dL_law_26 rfl hS ?_
    refine s_bipush 29 dL_law_27 rfl (by decide) ?_
    refine s_isub 30 dL_law_29 rfl ?_
    refine s_icmp_gt 1434 33 dL_law_30 rfl rfl (by first | omega | exact bI_r _ | exact iI_r _) (by first | omega | exact bI_r _ | exact iI_r _) (fun h_30 => ?_) (fun h_30 => ?_)
    · skip
      exact hend _ _ _ _ _ _
    refine s_aloadq_n 34 dL_law_33 rfl rfl ?_
    refine s_iload 36 dL_law_34 rfl rfl ?_
    refine s_sld 37 dL_law_36 rfl hS (by omega) ?_
    refine s_bipush 39 dL_law_37 rfl (by decide) ?_
    refine s_iand 40 dL_law_39 rfl ?_
    have nx : ∀ c' s' w5' w6' I' L' R', c' ≤ c9 + 1 → s' ≤ s9 + 6 → Jb I' L' R' (m + 8) → V X M_L_law (c', s', 161) 1428 [some (vq 3 0), some (vr 0), some (vr 138), some (vr 160), some (vi i), w5', w6'] [] I' L' R' F := by
      intro c' s' w5' w6' I' L' R' q1 q2 q3
      refine s_iinc (ls' := [_, _, _, _, _, _, _]) 1431 dL_law_1428 rfl rfl (Nat.le_of_ble_eq_true rfl) rfl rfl ?_
      refine s_goto 23 dL_law_1431 rfl ?_
      exact ih c' s' (i + 6) (m + 8) w5' w6' I' L' R' (by omega) (by omega) (by omega) (by omega) (by omega) (by omega) (by omega) q3
    have rg : -2147483648 ≤ iand (sc i) 63 ∧ iand (sc i) 63 ≤ 2147483647 := iI_r _
    generalize iand (sc i) 63 = x at rg ⊢
    have hi9 : 0 ≤ i ∧ i + 6 ≤ Ls := ⟨by omega, by omega⟩
    have hm9 : 0 ≤ m ∧ m ≤ 900000 := ⟨by omega, by omega⟩
    rcases (show (x < 0 ∨ 44 < x) ∨ x = 0 ∨ x = 1 ∨ x = 2 ∨ x = 3 ∨ x = 4 ∨ x = 5 ∨ x = 6 ∨ x = 7 ∨ x = 8 ∨ x = 9 ∨ x = 10 ∨ x = 11 ∨ x = 12 ∨ x = 13 ∨ x = 14 ∨ x = 15 ∨ x = 16 ∨ x = 17 ∨ x = 18 ∨ x = 19 ∨ x = 20 ∨ x = 21 ∨ x = 22 ∨ x = 23 ∨ x = 24 ∨ x = 25 ∨ x = 26 ∨ x = 27 ∨ x = 28 ∨ x = 29 ∨ x = 30 ∨ x = 31 ∨ x = 32 ∨ x = 33 ∨ x = 34 ∨ x = 35 ∨ x = 36 ∨ x = 37 ∨ x = 38 ∨ x = 39 ∨ x = 40 ∨ x = 41 ∨ x = 42 ∨ x = 43 ∨ x = 44 by omega) with h | h | h | h | h | h | h | h | h | h | h | h | h | h | h | h | h | h | h | h | h | h | h | h | h | h | h | h | h | h | h | h | h | h | h | h | h | h | h | h | h | h | h | h | h | h
    · exact s_tsOut 1428 dL_law_40 rg h (by decide) (nx _ _ _ _ _ _ _ (by omega) (by omega) (hJ.mo (by omega)))
    · exact s_tsIn 236 dL_law_40 rg (by omega) (by omega) (by rw [h]; rfl) (by decide) (lw_c0 hS hi9 hm9 hJ nx)
    · exact s_tsIn 309 dL_law_40 rg (by omega) (by omega) (by rw [h]; rfl) (by decide) (lw_c1 hS hi9 hm9 hJ nx)
    · exact s_tsIn 334 dL_law_40 rg (by omega) (by omega) (by rw [h]; rfl) (by decide) (lw_c2 hS hi9 hm9 hJ nx)
    · exact s_tsIn 347 dL_law_40 rg (by omega) (by omega) (by rw [h]; rfl) (by decide) (lw_c3 hS hi9 hm9 hJ nx)
    · exact s_tsIn 360 dL_law_40 rg (by omega) (by omega) (by rw [h]; rfl) (by decide) (lw_c4 hS hi9 hm9 hJ nx)
    · exact s_tsIn 373 dL_law_40 rg (by omega) (by omega) (by rw [h]; rfl) (by decide) (lw_c5 hS hi9 hm9 hJ nx)
    · exact s_tsIn 398 dL_law_40 rg (by omega) (by omega) (by rw [h]; rfl) (by decide) (lw_c6 hS hi9 hm9 hJ nx)
    · exact s_tsIn 451 dL_law_40 rg (by omega) (by omega) (by rw [h]; rfl) (by decide) (lw_c7 hS hi9 hm9 hJ nx)
    · exact s_tsIn 504 dL_law_40 rg (by omega) (by omega) (by rw [h]; rfl) (by decide) (lw_c8 hS hi9 hm9 hJ nx)
    · exact s_tsIn 541 dL_law_40 rg (by omega) (by omega) (by rw [h]; rfl) (by decide) (lw_c9 hS hi9 hm9 hJ nx)
    · exact s_tsIn 578 dL_law_40 rg (by omega) (by omega) (by rw [h]; rfl) (by decide) (lw_c10 hS hi9 hm9 hJ nx)
    · exact s_tsIn 615 dL_law_40 rg (by omega) (by omega) (by rw [h]; rfl) (by decide) (lw_c11 hS hi9 hm9 hJ nx)
    · exact s_tsIn 640 dL_law_40 rg (by omega) (by omega) (by rw [h]; rfl) (by decide) (lw_c12 hS hi9 hm9 hJ nx)
    · exact s_tsIn 665 dL_law_40 rg (by omega) (by omega) (by rw [h]; rfl) (by decide) (lw_c13 hS hi9 hm9 hJ nx)
    · exact s_tsIn 690 dL_law_40 rg (by omega) (by omega) (by rw [h]; rfl) (by decide) (lw_c14 hS hi9 hm9 hJ nx)
    · exact s_tsIn 703 dL_law_40 rg (by omega) (by omega) (by rw [h]; rfl) (by decide) (lw_c15 hS hi9 hm9 hJ nx)
    · exact s_tsIn 728 dL_law_40 rg (by omega) (by omega) (by rw [h]; rfl) (by decide) (lw_c16 hS hi9 hm9 hJ nx)
    · exact s_tsIn 765 dL_law_40 rg (by omega) (by omega) (by rw [h]; rfl) (by decide) (lw_c17 hS hi9 hm9 hJ nx)
    · exact s_tsIn 778 dL_law_40 rg (by omega) (by omega) (by rw [h]; rfl) (by decide) (lw_c18 hS hi9 hm9 hJ nx)
    · exact s_tsIn 803 dL_law_40 rg (by omega) (by omega) (by rw [h]; rfl) (by decide) (lw_c19 hS hi9 hm9 hJ nx)
    · exact s_tsIn 816 dL_law_40 rg (by omega) (by omega) (by rw [h]; rfl) (by decide) (lw_c20 hS hi9 hm9 hJ nx)
    · exact s_tsIn 841 dL_law_40 rg (by omega) (by omega) (by rw [h]; rfl) (by decide) (lw_c21 hS hi9 hm9 hJ nx)
    · exact s_tsIn 854 dL_law_40 rg (by omega) (by omega) (by rw [h]; rfl) (by decide) (lw_c22 hS hi9 hm9 hJ nx)
    · exact s_tsIn 867 dL_law_40 rg (by omega) (by omega) (by rw [h]; rfl) (by decide) (lw_c23 hS hi9 hm9 hJ nx)
    · exact s_tsIn 880 dL_law_40 rg (by omega) (by omega) (by rw [h]; rfl) (by decide) (lw_c24 hS hi9 hm9 hJ nx)
    · exact s_tsIn 905 dL_law_40 rg (by omega) (by omega) (by rw [h]; rfl) (by decide) (lw_c25 hS hi9 hm9 hJ nx)
    · exact s_tsIn 930 dL_law_40 rg (by omega) (by omega) (by rw [h]; rfl) (by decide) (lw_c26 hS hi9 hm9 hJ nx)
    · exact s_tsIn 943 dL_law_40 rg (by omega) (by omega) (by rw [h]; rfl) (by decide) (lw_c27 hS hi9 hm9 hJ nx)
    · exact s_tsIn 956 dL_law_40 rg (by omega) (by omega) (by rw [h]; rfl) (by decide) (lw_c28 hS hi9 hm9 hJ nx)
    · exact s_tsIn 969 dL_law_40 rg (by omega) (by omega) (by rw [h]; rfl) (by decide) (lw_c29 hS hi9 hm9 hJ nx)
    · exact s_tsIn 994 dL_law_40 rg (by omega) (by omega) (by rw [h]; rfl) (by decide) (lw_c30 hS hi9 hm9 hJ nx)
    · exact s_tsIn 1031 dL_law_40 rg (by omega) (by omega) (by rw [h]; rfl) (by decide) (lw_c31 hS hi9 hm9 hJ nx)
    · exact s_tsIn 1044 dL_law_40 rg (by omega) (by omega) (by rw [h]; rfl) (by decide) (lw_c32 hS hi9 hm9 hJ nx)
    · exact s_tsIn 1057 dL_law_40 rg (by omega) (by omega) (by rw [h]; rfl) (by decide) (lw_c33 hS hi9 hm9 hJ nx)
    · exact s_tsIn 1094 dL_law_40 rg (by omega) (by omega) (by rw [h]; rfl) (by decide) (lw_c34 hS hi9 hm9 hJ nx)
    · exact s_tsIn 1131 dL_law_40 rg (by omega) (by omega) (by rw [h]; rfl) (by decide) (lw_c35 hS hi9 hm9 hJ nx)
    · exact s_tsIn 1184 dL_law_40 rg (by omega) (by omega) (by rw [h]; rfl) (by decide) (lw_c36 hS hi9 hm9 hJ nx)
    · exact s_tsIn 1197 dL_law_40 rg (by omega) (by omega) (by rw [h]; rfl) (by decide) (lw_c37 hS hi9 hm9 hJ nx)
    · exact s_tsIn 1210 dL_law_40 rg (by omega) (by omega) (by rw [h]; rfl) (by decide) (lw_c38 hS hi9 hm9 hJ nx)
    · exact s_tsIn 1223 dL_law_40 rg (by omega) (by omega) (by rw [h]; rfl) (by decide) (lw_c39 hS hi9 hm9 hJ nx)
    · exact s_tsIn 1248 dL_law_40 rg (by omega) (by omega) (by rw [h]; rfl) (by decide) (lw_c40 hS hi9 hm9 hJ nx)
    · exact s_tsIn 1285 dL_law_40 rg (by omega) (by omega) (by rw [h]; rfl) (by decide) (lw_c41 hS hi9 hm9 hJ nx)
    · exact s_tsIn 1322 dL_law_40 rg (by omega) (by omega) (by rw [h]; rfl) (by decide) (lw_c42 hS hi9 hm9 hJ hKT hfl (by omega) (by omega) nx)
    · exact s_tsIn 1390 dL_law_40 rg (by omega) (by omega) (by rw [h]; rfl) (by decide) (lw_c43 hS hi9 hm9 hJ nx)
    · exact s_tsIn 1415 dL_law_40 rg (by omega) (by omega) (by rw [h]; rfl) (by decide) (lw_c44 hS hi9 hm9 hJ nx)
