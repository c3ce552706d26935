/-! the reference's feed -/
def fdW (a b c d e k : Int) : Int := if k < 4 then a else if k < 8 then b else if k < 12 then c else if k < 16 then d else e
def fdB (a b c d e k : Int) : Int := iand (ishr (fdW a b c d e k) (24 - 8 * (k % 4))) 255
/-- the tape with so many of the bytes more -/
def fdT (bt : F1) (n a b c d e m : Int) : F1 := fun k => if n ≤ k ∧ k < n + m then fdB a b c d e (k - n) else bt k
theorem iand255 (x : Int) : 0 ≤ iand x 255 ∧ iand x 255 ≤ 255 := by
  have := set_lt (n := 8) (by omega) (iand_r x 255) (fun k h1 h2 h => by
    have := (has_and (x := x) (y := 255) ⟨by omega, h2⟩).mp h
    exact has_lt (x := 255) (n := 8) (by omega) (by omega) ⟨h1, h2⟩ this.2)
  omega
theorem fdT_s {bt : F1} {n a b c d e m : Int} (hm : 0 ≤ m) {k : Int} : (if k = n + m then fdB a b c d e m else fdT bt n a b c d e m k) = fdT bt n a b c d e (m + 1) k := by
  unfold fdT
  by_cases h : k = n + m
  · rw [if_pos h, if_pos (by omega), h, show n + m - n = m by omega]
  · rw [if_neg h]
    by_cases h2 : n ≤ k ∧ k < n + m
    · rw [if_pos h2, if_pos (by omega)]
    · rw [if_neg h2, if_neg (by omega)]
theorem fdT_N {bt : F1} {n a b c d e : Int} (h : Nrm bt) (hn : 0 ≤ n ∧ n + 20 ≤ 900) : Nrm (fdT bt n a b c d e 20) := by
  refine ⟨fun k hk => ?_, fun k => ?_⟩
  · unfold fdT
    rw [if_neg (by omega)]
    exact h.1 k hk
  · unfold fdT
    split
    · exact iand255 _
    · exact h.2 k
theorem irem4 {k : Int} (h : 0 ≤ k ∧ k < 20) : irem k 4 = k % 4 := irem_v (by omega) (by omega)
set_option maxHeartbeats 4000000 in
theorem c_X12_feed {E : ET} {I : MI} {L : ML} {R : MR} {Q : Option AV → MI → ML → MR → Prop} {bt r s : F1} {n ft pl w a b c d e : Int} {HP : Prop} {U D K : List (List Int)} (hT : Topo R) (hM : MV I bt n ft pl w HP r s U D K) (hn : 0 ≤ n ∧ n ≤ 900) (ha : -2147483648 ≤ a ∧ a ≤ 2147483647) (hb : -2147483648 ≤ b ∧ b ≤ 2147483647) (hc : -2147483648 ≤ c ∧ c ≤ 2147483647) (hd : -2147483648 ≤ d ∧ d ≤ 2147483647) (he : -2147483648 ≤ e ∧ e ≤ 2147483647) (h : (n + 20 > 900 → Q (some (vi (-1))) (tz I 0) L R) ∧ (n + 20 ≤ 900 → ∀ I', Lo I I' → MV I' (fdT bt n a b c d e 20) (n + 20) ft pl w HP r s U D K → Q (some (vi (n + 20))) I' L R)) : CT E M_X12_feed 161 yX12_feed [(vr (138)), (vi (a)), (vi (b)), (vi (c)), (vi (d)), (vi (e))] I L R Q := by
  refine CT_of rfl rfl (fun h => by cases h) (Nat.le_of_ble_eq_true rfl) (fun X => ?_)
  show V X _ z0 0 [some (vr (138)), some (vi (a)), some (vi (b)), some (vi (c)), some (vi (d)), some (vi (e)), none, none] [] I L R _
  have hM0 := hM
  obtain ⟨⟨a1, a2, a3, a4, a5, a6⟩, b0, c0, d0, ⟨e1, e2⟩, ⟨f1, f2⟩, g1, g2⟩ := hM
  have t2 : up I 138 0 0 138 2 = n := (upn (by decide)).trans a1
  by_cases hbig : n + 20 > 900
  · have h := h.1 hbig
    refine s_aload_n 1 dX12_feed_0 rfl rfl ?_
    refine s_iconst 2 dX12_feed_1 rfl ?_
    refine s_putI 5 dX12_feed_2 rfl fl_X12_81 (fun _ => rfl) (fun _ => rfl) (fun _ _ _ _ => rfl) sh_138 (Nat.le_of_ble_eq_true rfl) (by first | omega | exact bI_r _ | exact iI_r _) ?_
    refine s_aload_n 6 dX12_feed_5 rfl rfl ?_
    refine s_getI 9 dX12_feed_6 rfl fl_X12_87 (fun _ _ _ _ => rfl) sh_138 (Nat.le_of_ble_eq_true rfl) (fun r_6 => ?_)
    rw [t2]
    refine s_bipush 11 dX12_feed_9 rfl (by decide) ?_
    refine s_iadd 12 dX12_feed_11 rfl ?_
    refine s_sipush 15 dX12_feed_12 rfl (by decide) ?_
    refine s_icmp_le 20 18 dX12_feed_15 rfl rfl (by first | omega | exact bI_r _ | exact iI_r _) (by first | omega | exact bI_r _ | exact iI_r _) (fun h_15 => by exfalso; omega) (fun h_15 => ?_)
    refine s_iconst 19 dX12_feed_18 rfl ?_
    refine s_iret dX12_feed_19 rfl rfl ?_
    exact h
  · have h := h.2 (by omega)
    have loop : ∀ (f : Nat) (k : Int) (I1 : MI) (w7 : Option AV), 20 - k < (f : Int) → 0 ≤ k → k ≤ 20 → (∀ c, c ≠ 138 → c ≠ 139 → I1 c = I c) → (∀ j : Int, j ≠ 0 → j ≠ 2 → I1 138 j = I 138 j) → I1 138 2 = n + k → (∀ j, 0 ≤ j → j < 900 → I1 139 j = fdT bt n a b c d e k j) →
        V X M_X12_feed z0 23 [some (vr 138), some (vi a), some (vi b), some (vi c), some (vi d), some (vi e), some (vi k), w7] [] I1 L R (RT X M_X12_feed Q) := by
      intro f
      induction f with
      | zero => intro k I1 w7 z1 z2 z3; omega
      | succ f ih =>
        intro k I1 w7 z1 z2 z3 j1 j2 j3 j4
        by_cases hk : k < 20
        · have step : ∀ v, v = fdW a b c d e k → V X M_X12_feed z0 76 [some (vr 138), some (vi a), some (vi b), some (vi c), some (vi d), some (vi e), some (vi k), w7] [vi v] I1 L R (RT X M_X12_feed Q) := by
            intro v hv
            subst hv
            refine s_istore (ls' := [_, _, _, _, _, _, _, _]) 78 dX12_feed_76 rfl (Nat.le_of_ble_eq_true rfl) rfl rfl ?_
            refine s_aload_n 79 dX12_feed_78 rfl rfl ?_
            refine s_getR 82 dX12_feed_79 rfl fl_X12_7 (fun _ _ _ _ => rfl) (T_X12_tape hT) sh_138 (Nat.le_of_ble_eq_true rfl) ?_
            refine s_aload_n 83 dX12_feed_82 rfl rfl ?_
            refine s_getI 86 dX12_feed_83 rfl fl_X12_87 (fun _ _ _ _ => rfl) sh_138 (Nat.le_of_ble_eq_true rfl) (fun r_83 => ?_)
            rw [j3]
            refine s_iload 88 dX12_feed_86 rfl rfl ?_
            refine s_bipush 90 dX12_feed_88 rfl (by decide) ?_
            refine s_bipush 92 dX12_feed_90 rfl (by decide) ?_
            refine s_iload 94 dX12_feed_92 rfl rfl ?_
            refine s_iconst 95 dX12_feed_94 rfl ?_
            refine s_irem 96 dX12_feed_95 rfl (by first | omega | exact bI_r _ | exact iI_r _) (by omega) ?_
            refine s_imul 97 dX12_feed_96 rfl ?_
            refine s_isub 98 dX12_feed_97 rfl ?_
            refine s_ishr 99 dX12_feed_98 rfl ?_
            refine s_sipush 102 dX12_feed_99 rfl (by decide) ?_
            refine s_iand 103 dX12_feed_102 rfl ?_
            refine s_iast 104 dX12_feed_103 rfl sh_139 (Nat.le_of_ble_eq_true rfl) (by omega) (by omega) (by first | omega | exact iand_r _ _) ?_
            refine s_aload_n 105 dX12_feed_104 rfl rfl ?_
            refine s_dup 106 dX12_feed_105 rfl rfl ?_
            refine s_getI 109 dX12_feed_106 rfl fl_X12_87 (fun _ _ _ _ => rfl) sh_138 (Nat.le_of_ble_eq_true rfl) (fun r_106 => ?_)
            rw [up_ne (by decide), j3]
            refine s_iconst 110 dX12_feed_109 rfl ?_
            refine s_iadd 111 dX12_feed_110 rfl ?_
            refine s_putI 114 dX12_feed_111 rfl fl_X12_87 (fun _ => rfl) (fun _ => rfl) (fun _ _ _ _ => rfl) sh_138 (Nat.le_of_ble_eq_true rfl) (by first | omega | exact bI_r _ | exact iI_r _) ?_
            refine s_iinc (ls' := [_, _, _, _, _, _, _, _]) 117 dX12_feed_114 rfl rfl (Nat.le_of_ble_eq_true rfl) rfl rfl ?_
            refine s_goto 23 dX12_feed_117 rfl ?_
            refine ih (k + 1) _ _ (by omega) (by omega) (by omega) (fun c9 y1 y2 => ?_) (fun j y1 y2 => ?_) ?_ (fun j y1 y2 => ?_)
            · rw [up_ne y1, up_ne y2]; exact j1 c9 y1 y2
            · rw [upn y2, up_ne (by decide)]; exact j2 j y1 y2
            · rw [ups]; omega
            · rw [up_ne (by decide), upd9, ← fdT_s z2]
              by_cases ej : j = n + k
              · rw [if_pos ej, if_pos ej, irem4 ⟨z2, hk⟩]; rfl
              · rw [if_neg ej, if_neg ej]; exact j4 j y1 y2
          refine s_iload 25 dX12_feed_23 rfl rfl ?_
          refine s_bipush 27 dX12_feed_25 rfl (by decide) ?_
          refine s_icmp_ge 120 30 dX12_feed_27 rfl rfl (by first | omega | exact bI_r _ | exact iI_r _) (by first | omega | exact bI_r _ | exact iI_r _) (fun h_27 => by exfalso; omega) (fun h_27 => ?_)
          refine s_iload 32 dX12_feed_30 rfl rfl ?_
          refine s_iconst 33 dX12_feed_32 rfl ?_
          refine s_icmp_ge 40 36 dX12_feed_33 rfl rfl (by first | omega | exact bI_r _ | exact iI_r _) (by first | omega | exact bI_r _ | exact iI_r _) (fun h_33 => ?_) (fun h_33 => ?_)
          · skip
            refine s_iload 42 dX12_feed_40 rfl rfl ?_
            refine s_bipush 44 dX12_feed_42 rfl (by decide) ?_
            refine s_icmp_ge 51 47 dX12_feed_44 rfl rfl (by first | omega | exact bI_r _ | exact iI_r _) (by first | omega | exact bI_r _ | exact iI_r _) (fun h_44 => ?_) (fun h_44 => ?_)
            · skip
              refine s_iload 53 dX12_feed_51 rfl rfl ?_
              refine s_bipush 55 dX12_feed_53 rfl (by decide) ?_
              refine s_icmp_ge 62 58 dX12_feed_55 rfl rfl (by first | omega | exact bI_r _ | exact iI_r _) (by first | omega | exact bI_r _ | exact iI_r _) (fun h_55 => ?_) (fun h_55 => ?_)
              · skip
                refine s_iload 64 dX12_feed_62 rfl rfl ?_
                refine s_bipush 66 dX12_feed_64 rfl (by decide) ?_
                refine s_icmp_ge 74 69 dX12_feed_66 rfl rfl (by first | omega | exact bI_r _ | exact iI_r _) (by first | omega | exact bI_r _ | exact iI_r _) (fun h_66 => ?_) (fun h_66 => ?_)
                · skip
                  refine s_iload 76 dX12_feed_74 rfl rfl ?_
                  refine step _ ?_
                  unfold fdW
                  first | rw [if_pos (by omega)] | rw [if_neg (by omega), if_pos (by omega)] | rw [if_neg (by omega), if_neg (by omega), if_pos (by omega)] | rw [if_neg (by omega), if_neg (by omega), if_neg (by omega), if_pos (by omega)] | rw [if_neg (by omega), if_neg (by omega), if_neg (by omega), if_neg (by omega)]
                refine s_iload 71 dX12_feed_69 rfl rfl ?_
                refine s_goto 76 dX12_feed_71 rfl ?_
                refine step _ ?_
                unfold fdW
                first | rw [if_pos (by omega)] | rw [if_neg (by omega), if_pos (by omega)] | rw [if_neg (by omega), if_neg (by omega), if_pos (by omega)] | rw [if_neg (by omega), if_neg (by omega), if_neg (by omega), if_pos (by omega)] | rw [if_neg (by omega), if_neg (by omega), if_neg (by omega), if_neg (by omega)]
              refine s_iload_n 59 dX12_feed_58 rfl rfl ?_
              refine s_goto 76 dX12_feed_59 rfl ?_
              refine step _ ?_
              unfold fdW
              first | rw [if_pos (by omega)] | rw [if_neg (by omega), if_pos (by omega)] | rw [if_neg (by omega), if_neg (by omega), if_pos (by omega)] | rw [if_neg (by omega), if_neg (by omega), if_neg (by omega), if_pos (by omega)] | rw [if_neg (by omega), if_neg (by omega), if_neg (by omega), if_neg (by omega)]
            refine s_iload_n 48 dX12_feed_47 rfl rfl ?_
            refine s_goto 76 dX12_feed_48 rfl ?_
            refine step _ ?_
            unfold fdW
            first | rw [if_pos (by omega)] | rw [if_neg (by omega), if_pos (by omega)] | rw [if_neg (by omega), if_neg (by omega), if_pos (by omega)] | rw [if_neg (by omega), if_neg (by omega), if_neg (by omega), if_pos (by omega)] | rw [if_neg (by omega), if_neg (by omega), if_neg (by omega), if_neg (by omega)]
          refine s_iload_n 37 dX12_feed_36 rfl rfl ?_
          refine s_goto 76 dX12_feed_37 rfl ?_
          refine step _ ?_
          unfold fdW
          first | rw [if_pos (by omega)] | rw [if_neg (by omega), if_pos (by omega)] | rw [if_neg (by omega), if_neg (by omega), if_pos (by omega)] | rw [if_neg (by omega), if_neg (by omega), if_neg (by omega), if_pos (by omega)] | rw [if_neg (by omega), if_neg (by omega), if_neg (by omega), if_neg (by omega)]
        · have ek : k = 20 := by omega
          subst ek
          refine s_iload 25 dX12_feed_23 rfl rfl ?_
          refine s_bipush 27 dX12_feed_25 rfl (by decide) ?_
          refine s_icmp_ge 120 30 dX12_feed_27 rfl rfl (by first | omega | exact bI_r _ | exact iI_r _) (by first | omega | exact bI_r _ | exact iI_r _) (fun h_27 => ?_) (fun h_27 => by exfalso; omega)
          refine s_aload_n 121 dX12_feed_120 rfl rfl ?_
          refine s_getI 124 dX12_feed_121 rfl fl_X12_87 (fun _ _ _ _ => rfl) sh_138 (Nat.le_of_ble_eq_true rfl) (fun r_121 => ?_)
          rw [j3]
          refine s_iret dX12_feed_124 rfl rfl ?_
          refine h I1 (fun c9 hc9 => j1 c9 (by omega) (by omega)) ⟨⟨j3, j4, ?_, ?_, ?_, ?_⟩, ?_, ?_, ?_, ⟨?_, ?_⟩, ⟨?_, ?_⟩, ?_, ?_⟩
          · rw [j2 _ (by decide) (by decide)]; exact a3
          · rw [j2 _ (by decide) (by decide)]; exact a4
          · rw [j2 _ (by decide) (by decide)]; exact a5
          · rw [j2 _ (by decide) (by decide)]; exact a6
          · rw [j2 _ (by decide) (by decide)]; exact b0
          · rw [j1 _ (by decide) (by decide)]; exact c0
          · rw [j1 _ (by decide) (by decide)]; exact d0
          · rw [j2 _ (by decide) (by decide)]; exact e1
          · rw [j1 _ (by decide) (by decide)]; exact e2
          · rw [j2 _ (by decide) (by decide)]; exact f1
          · rw [j1 _ (by decide) (by decide)]; exact f2
          · rw [j2 _ (by decide) (by decide)]; exact g1
          · rw [j1 _ (by decide) (by decide)]; exact g2
    refine s_aload_n 1 dX12_feed_0 rfl rfl ?_
    refine s_iconst 2 dX12_feed_1 rfl ?_
    refine s_putI 5 dX12_feed_2 rfl fl_X12_81 (fun _ => rfl) (fun _ => rfl) (fun _ _ _ _ => rfl) sh_138 (Nat.le_of_ble_eq_true rfl) (by first | omega | exact bI_r _ | exact iI_r _) ?_
    refine s_aload_n 6 dX12_feed_5 rfl rfl ?_
    refine s_getI 9 dX12_feed_6 rfl fl_X12_87 (fun _ _ _ _ => rfl) sh_138 (Nat.le_of_ble_eq_true rfl) (fun r_6 => ?_)
    rw [t2]
    refine s_bipush 11 dX12_feed_9 rfl (by decide) ?_
    refine s_iadd 12 dX12_feed_11 rfl ?_
    refine s_sipush 15 dX12_feed_12 rfl (by decide) ?_
    refine s_icmp_le 20 18 dX12_feed_15 rfl rfl (by first | omega | exact bI_r _ | exact iI_r _) (by first | omega | exact bI_r _ | exact iI_r _) (fun h_15 => ?_) (fun h_15 => by exfalso; omega)
    refine s_iconst 21 dX12_feed_20 rfl ?_
    refine s_istore (ls' := [_, _, _, _, _, _, _, _]) 23 dX12_feed_21 rfl (Nat.le_of_ble_eq_true rfl) rfl rfl ?_
    refine loop 21 0 _ _ (by omega) (by omega) (by omega) (fun c9 y1 y2 => up_ne y1) (fun j y1 y2 => upn y1) (by rw [t2]; omega) (fun j y1 y2 => ?_)
    rw [up_ne (by decide), a2 j y1 y2]
    unfold fdT
    rw [if_neg (by omega)]
