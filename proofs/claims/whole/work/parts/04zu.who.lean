/-! who, by the reference -/
def pwF (m : Int) : Nat → Int
  | 0 => 1
  | k + 1 => pwF m k * m
theorem pwF_b {m : Int} (h : 1 ≤ m ∧ m ≤ 3) : ∀ k : Nat, k ≤ 7 → 1 ≤ pwF m k ∧ pwF m k ≤ 2187 := by
  have hc : m = 1 ∨ m = 2 ∨ m = 3 := by omega
  intro k hk
  have hk : k = 0 ∨ k = 1 ∨ k = 2 ∨ k = 3 ∨ k = 4 ∨ k = 5 ∨ k = 6 ∨ k = 7 := by omega
  rcases hc with rfl | rfl | rfl <;> rcases hk with rfl | rfl | rfl | rfl | rfl | rfl | rfl | rfl <;> decide
theorem pwF_s {m k : Int} (h : 0 ≤ k) : pwF m (k + 1).toNat = pwF m k.toNat * m := by
  rw [show (k + 1).toNat = k.toNat + 1 by omega]
  rfl
def lfF (m c : Int) : Nat → Int
  | 0 => c
  | k + 1 => lfF m c k / m
theorem lfF_s {m c k : Int} (h : 0 ≤ k) : lfF m c (k + 1).toNat = lfF m c k.toNat / m := by
  rw [show (k + 1).toNat = k.toNat + 1 by omega]
  rfl
theorem lfF_b {m c : Int} (hm : 1 ≤ m ∧ m ≤ 3) (hc : 0 ≤ c ∧ c ≤ 2187) : ∀ k : Nat, 0 ≤ lfF m c k ∧ lfF m c k ≤ 2187
  | 0 => hc
  | k + 1 => by
    have h := lfF_b hm hc k
    unfold lfF
    refine ⟨Int.ediv_nonneg h.1 (by omega), ?_⟩
    have := Int.ediv_le_self m h.1
    omega
def dgF (m c : Int) : F1 := fun p => lfF m c p.toNat % m
noncomputable def whoF (G : Int → Prop) (n m : Int) : Nat → Int
  | 0 => 0
  | c + 1 => whoF G n m c + pick (∀ q, 0 ≤ q → q < m → G (grF (dgF m c) n q)) 1 0
theorem whoF_s {G : Int → Prop} {n m k : Int} (h : 0 ≤ k) : whoF G n m (k + 1).toNat = whoF G n m k.toNat + pick (∀ q, 0 ≤ q → q < m → G (grF (dgF m k) n q)) 1 0 := by
  rw [(nat1 h).1]
  show _ + pick (∀ q, 0 ≤ q → q < m → G (grF (dgF m (k.toNat : Nat)) n q)) 1 0 = _
  rw [(nat1 h).2]
theorem whoF_b {G : Int → Prop} {n m : Int} : ∀ c : Nat, 0 ≤ whoF G n m c ∧ whoF G n m c ≤ c
  | 0 => by unfold whoF; omega
  | c + 1 => by
    have := whoF_b (G := G) (n := n) (m := m) c
    unfold whoF
    by_cases z : ∀ q, 0 ≤ q → q < m → G (grF (dgF m c) n q)
    · rw [pick_t z]; omega
    · rw [pick_f z]; omega
set_option maxHeartbeats 4000000 in
theorem c_X12_who {E : ET} {I : MI} {L : ML} {R : MR} {Q : Option AV → MI → ML → MR → Prop} {r s : F1} {a : List Int} {HP : Prop} {i : Int} (hT : Topo R) (er : I 141 = r) (es : I 143 = s) (erd : I 138 30 = -1) (ehp : I 138 14 = bI HP) (hr : HP → SOk r s a) (hi : -2147483648 ≤ i ∧ i ≤ 2147483647) (h : ∀ I', Eqo MS (gd I (pick HP (pick (1 ≤ i ∧ i ≤ 3) 0 2) 1)) I' → Q (some (vi (pick HP (pick (1 ≤ i ∧ i ≤ 3) (whoF (MayP r (-1) (r 2) s (s 12)) (r 4) i (pwF i (r 4).toNat).toNat) (-1)) (-1)))) I' L R) : CT E M_X12_who 161 yX12_who [(vr (138)), (vi (i))] I L R Q := by
  refine CT_of rfl rfl (fun h => by cases h) (Nat.le_of_ble_eq_true rfl) (fun X => ?_)
  show V X _ z0 0 [some (vr (138)), some (vi (i)), none, none, none, none, none] [] I L R _
  have er1 : up (up I 138 0 0) 138 11 0 141 = r := (gd_n (by decide)).trans er
  have es1 : up (up I 138 0 0) 138 11 0 143 = s := (gd_n (by decide)).trans es
  have erd1 : up (up I 138 0 0) 138 11 0 138 30 = -1 := (gd_f (by decide)).trans erd
  have ehp1 : up (up I 138 0 0) 138 11 0 138 14 = bI HP := (gd_f (by decide)).trans ehp
  by_cases hP : HP
  · have hrr := (hr hP).1
    have e0 := hrr.1
    have ea := allF_7 (n := r 4) (by omega)
    rw [pick_t hP, pick_t hP] at h
    by_cases hC : 1 ≤ i ∧ i ≤ 3
    · rw [pick_t hC, pick_t hC] at h
      have pb := pwF_b hC
      have loop3 : ∀ (N : Int), N = pwF i (r 4).toNat → ∀ (f : Nat) (c : Int) (I1 : MI) (w5 w6 : Option AV), N - c < (f : Int) → 0 ≤ c → c ≤ N → Eqo MS (gd I 0) I1 → (∀ x, 0 ≤ x → x ≤ allF (r 4) → I1 153 x = bI (MayP r (-1) (r 2) s (s 12) x)) →
          V X M_X12_who z0 80 [some (vr 138), some (vi i), some (vi N), some (vi (whoF (MayP r (-1) (r 2) s (s 12)) (r 4) i c.toNat)), some (vi c), w5, w6] [] I1 L R (RT X M_X12_who Q) := by
        intro N hN f
        have pN := pb (r 4).toNat (by omega)
        rw [← hN] at pN
        induction f with
        | zero => intro c I1 w5 w6 z1 z2 z3; omega
        | succ f ih =>
          intro c I1 w5 w6 z1 z2 z3 j1 j2
          have wb := whoF_b (G := MayP r (-1) (r 2) s (s 12)) (n := r 4) (m := i) c.toNat
          by_cases hc : c < N
          · have loop2 : ∀ (g : Nat) (p : Int) (I2 : MI), r 4 - p < (g : Int) → 0 ≤ p → p ≤ r 4 → Eqo MS (gd I 0) I2 → (∀ x, 0 ≤ x → x ≤ allF (r 4) → I2 153 x = bI (MayP r (-1) (r 2) s (s 12) x)) → (∀ x, 0 ≤ x → x < p → I2 155 x = dgF i c x) → V X M_X12_who z0 93 [some (vr (138)), some (vi (i)), some (vi (N)), some (vi (whoF (MayP r (-1) (r 2) s (s 12)) (r 4) i c.toNat)), some (vi (c)), some (vi (lfF i c p.toNat)), some (vi (p))] [] (I2) L R (RT X M_X12_who Q) := by
              intro g
              induction g with
              | zero => intro p I2 y1 y2 y3; omega
              | succ g ihg =>
                intro p I2 y1 y2 y3 y4 y5 y6
                have lb := lfF_b hC (c := c) ⟨z2, by omega⟩ p.toNat
                have er2 : I2 141 = r := (y4 141 (by decide)).trans er1
                by_cases hp : p < r 4
                · have em := Int.emod_nonneg (lfF i c p.toNat) (show i ≠ 0 by omega)
                  have em2 := Int.emod_lt_of_pos (lfF i c p.toNat) (show 0 < i by omega)
                  refine s_iload 95 dX12_who_93 rfl rfl ?_
                  refine s_aload_n 96 dX12_who_95 rfl rfl ?_
                  refine s_getR 99 dX12_who_96 rfl fl_X12_20 (fun _ _ _ _ => rfl) (T_X12_r hT) sh_138 (Nat.le_of_ble_eq_true rfl) ?_
                  refine s_iconst 100 dX12_who_99 rfl ?_
                  refine s_iald 101 dX12_who_100 rfl sh_141 (Nat.le_of_ble_eq_true rfl) (by omega) (by omega) (fun r_100 => ?_)
                  rw [er2] at r_100 ⊢
                  refine s_icmp_ge 127 104 dX12_who_101 rfl rfl (by first | omega | exact bI_r _ | exact iI_r _) (by first | omega | exact bI_r _ | exact iI_r _) (fun h_101 => by exfalso; omega) (fun h_101 => ?_)
                  refine s_aload_n 105 dX12_who_104 rfl rfl ?_
                  refine s_getR 108 dX12_who_105 rfl fl_X12_66 (fun _ _ _ _ => rfl) (T_X12_given hT) sh_138 (Nat.le_of_ble_eq_true rfl) ?_
                  refine s_iload 110 dX12_who_108 rfl rfl ?_
                  refine s_iload 112 dX12_who_110 rfl rfl ?_
                  refine s_iload_n 113 dX12_who_112 rfl rfl ?_
                  refine s_irem 114 dX12_who_113 rfl (by omega) (by omega) ?_
                  rw [irem_v (by omega) (by omega)]
                  refine s_iast 115 dX12_who_114 rfl sh_155 (Nat.le_of_ble_eq_true rfl) (by omega) (by omega) (by omega) ?_
                  refine s_iload 117 dX12_who_115 rfl rfl ?_
                  refine s_iload_n 118 dX12_who_117 rfl rfl ?_
                  refine s_idiv 119 dX12_who_118 rfl (by omega) (by omega) ?_
                  rw [idiv_v (by omega) (by omega)]
                  refine s_istore (ls' := [_, _, _, _, _, _, _]) 121 dX12_who_119 rfl (Nat.le_of_ble_eq_true rfl) rfl rfl ?_
                  refine s_iinc (ls' := [_, _, _, _, _, _, _]) 124 dX12_who_121 rfl rfl (Nat.le_of_ble_eq_true rfl) rfl rfl ?_
                  refine s_goto 93 dX12_who_124 rfl ?_
                  have ih9 := ihg (p + 1) (up I2 155 p (lfF i c p.toNat % i)) (by omega) (by omega) (by omega) (y4.st (by decide)) (fun x x1 x2 => by rw [up_ne (by decide)]; exact y5 x x1 x2) (fun x x1 x2 => ?_)
                  · rw [lfF_s y2] at ih9; exact ih9
                  · rw [upd9]
                    by_cases ex : x = p
                    · rw [if_pos ex, ex]; rfl
                    · rw [if_neg ex]; exact y6 x x1 (by omega)
                · have ep : p = r 4 := by omega
                  have hd : ∀ x, 0 ≤ x → x < r 4 → I2 155 x = dgF i c x := fun x x1 x2 => y6 x x1 (by omega)
                  have hdb : ∀ x, 0 ≤ x → x < r 4 → 0 ≤ I2 155 x ∧ I2 155 x ≤ 6 := fun x x1 x2 => by
                    rw [hd x x1 x2]
                    unfold dgF
                    have em := Int.emod_nonneg (lfF i c x.toNat) (show i ≠ 0 by omega)
                    have em2 := Int.emod_lt_of_pos (lfF i c x.toNat) (show 0 < i by omega)
                    omega
                  have e9 : (∀ q, 0 ≤ q → q < i → MayP r (-1) (r 2) s (s 12) (grF (I2 155) (r 4) q)) ↔ ∀ q, 0 ≤ q → q < i → MayP r (-1) (r 2) s (s 12) (grF (dgF i c) (r 4) q) := by
                    constructor
                    · intro z q q1 q2; rw [← grF_c hd]; exact z q q1 q2
                    · intro z q q1 q2; rw [grF_c hd]; exact z q q1 q2
                  have s1 := whoF_s (G := MayP r (-1) (r 2) s (s 12)) (n := r 4) (m := i) z2
                  refine s_iload 95 dX12_who_93 rfl rfl ?_
                  refine s_aload_n 96 dX12_who_95 rfl rfl ?_
                  refine s_getR 99 dX12_who_96 rfl fl_X12_20 (fun _ _ _ _ => rfl) (T_X12_r hT) sh_138 (Nat.le_of_ble_eq_true rfl) ?_
                  refine s_iconst 100 dX12_who_99 rfl ?_
                  refine s_iald 101 dX12_who_100 rfl sh_141 (Nat.le_of_ble_eq_true rfl) (by omega) (by omega) (fun r_100 => ?_)
                  rw [er2] at r_100 ⊢
                  refine s_icmp_ge 127 104 dX12_who_101 rfl rfl (by first | omega | exact bI_r _ | exact iI_r _) (by first | omega | exact bI_r _ | exact iI_r _) (fun h_101 => ?_) (fun h_101 => by exfalso; omega)
                  refine s_iload_n 128 dX12_who_127 rfl rfl ?_
                  refine s_aload_n 129 dX12_who_128 rfl rfl ?_
                  refine s_iload_n 130 dX12_who_129 rfl rfl ?_
                  refine s_callV0 (M' := M_X12_doAllCan) (as := [_]) 133 dX12_who_130 rfl cw_X12_366 rfl rfl sh_138 rfl (by decide) (Nat.le_of_ble_eq_true rfl) (Nat.le_of_ble_eq_true rfl) (Nat.le_of_ble_eq_true rfl) (Nat.le_of_ble_eq_true rfl) ⟨rfl, rfl, rfl⟩ ?_
                  refine c_X12_doAllCan (y := r) (G := MayP r (-1) (r 2) s (s 12)) hT er2 rfl y5 hrr hdb (by omega) ?_
                  refine s_ifb_eq 140 136 dX12_who_133 rfl rfl (fun h_133 => ?_) (fun h_133 => ?_)
                  · skip
                    refine s_iconst 141 dX12_who_140 rfl ?_
                    refine s_iadd 142 dX12_who_141 rfl ?_
                    refine s_istore_n (ls' := [_, _, _, _, _, _, _]) 143 dX12_who_142 rfl (Nat.le_of_ble_eq_true rfl) rfl rfl ?_
                    refine s_iinc (ls' := [_, _, _, _, _, _, _]) 146 dX12_who_143 rfl rfl (Nat.le_of_ble_eq_true rfl) rfl rfl ?_
                    refine s_goto 80 dX12_who_146 rfl ?_
                    first | (rw [pick_t (e9.mp (by assumption))] at s1; rw [← s1]; exact ih (c + 1) _ _ _ (by omega) (by omega) (by omega) y4 y5) | (rw [pick_f (fun z => absurd (e9.mpr z) (by assumption))] at s1; rw [← s1]; exact ih (c + 1) _ _ _ (by omega) (by omega) (by omega) y4 y5)
                  refine s_iconst 137 dX12_who_136 rfl ?_
                  refine s_goto 141 dX12_who_137 rfl ?_
                  refine s_iadd 142 dX12_who_141 rfl ?_
                  refine s_istore_n (ls' := [_, _, _, _, _, _, _]) 143 dX12_who_142 rfl (Nat.le_of_ble_eq_true rfl) rfl rfl ?_
                  refine s_iinc (ls' := [_, _, _, _, _, _, _]) 146 dX12_who_143 rfl rfl (Nat.le_of_ble_eq_true rfl) rfl rfl ?_
                  refine s_goto 80 dX12_who_146 rfl ?_
                  first | (rw [pick_t (e9.mp (by assumption))] at s1; rw [← s1]; exact ih (c + 1) _ _ _ (by omega) (by omega) (by omega) y4 y5) | (rw [pick_f (fun z => absurd (e9.mpr z) (by assumption))] at s1; rw [← s1]; exact ih (c + 1) _ _ _ (by omega) (by omega) (by omega) y4 y5)
            refine s_iload 82 dX12_who_80 rfl rfl ?_
            refine s_iload_n 83 dX12_who_82 rfl rfl ?_
            refine s_icmp_ge 149 86 dX12_who_83 rfl rfl (by first | omega | exact bI_r _ | exact iI_r _) (by first | omega | exact bI_r _ | exact iI_r _) (fun h_83 => by exfalso; omega) (fun h_83 => ?_)
            refine s_iload 88 dX12_who_86 rfl rfl ?_
            refine s_istore (ls' := [_, _, _, _, _, _, _]) 90 dX12_who_88 rfl (Nat.le_of_ble_eq_true rfl) rfl rfl ?_
            refine s_iconst 91 dX12_who_90 rfl ?_
            refine s_istore (ls' := [_, _, _, _, _, _, _]) 93 dX12_who_91 rfl (Nat.le_of_ble_eq_true rfl) rfl rfl ?_
            exact loop2 (r 4 + 1).toNat 0 I1 (by omega) (by omega) (by omega) j1 j2 (fun x x1 x2 => by omega)
          · have ec : c = N := by omega
            refine s_iload 82 dX12_who_80 rfl rfl ?_
            refine s_iload_n 83 dX12_who_82 rfl rfl ?_
            refine s_icmp_ge 149 86 dX12_who_83 rfl rfl (by first | omega | exact bI_r _ | exact iI_r _) (by first | omega | exact bI_r _ | exact iI_r _) (fun h_83 => ?_) (fun h_83 => by exfalso; omega)
            refine s_iload_n 150 dX12_who_149 rfl rfl ?_
            refine s_iret dX12_who_150 rfl rfl ?_
            rw [ec, hN]; exact h I1 j1
      have loop1 : ∀ (f : Nat) (p : Int) (I1 : MI) (w4 w5 w6 : Option AV), r 4 - p < (f : Int) → 0 ≤ p → p ≤ r 4 → Eqo MS (gd I 0) I1 → (∀ x, 0 ≤ x → x ≤ allF (r 4) → I1 153 x = bI (MayP r (-1) (r 2) s (s 12) x)) →
          V X M_X12_who z0 55 [some (vr 138), some (vi i), some (vi (pwF i p.toNat)), some (vi p), w4, w5, w6] [] I1 L R (RT X M_X12_who Q) := by
        intro f
        induction f with
        | zero => intro p I1 w4 w5 w6 z1 z2 z3; omega
        | succ f ih =>
          intro p I1 w4 w5 w6 z1 z2 z3 j1 j2
          have er2 : I1 141 = r := (j1 141 (by decide)).trans er1
          by_cases hp : p < r 4
          · skip
            refine s_iload_n 56 dX12_who_55 rfl rfl ?_
            refine s_aload_n 57 dX12_who_56 rfl rfl ?_
            refine s_getR 60 dX12_who_57 rfl fl_X12_20 (fun _ _ _ _ => rfl) (T_X12_r hT) sh_138 (Nat.le_of_ble_eq_true rfl) ?_
            refine s_iconst 61 dX12_who_60 rfl ?_
            refine s_iald 62 dX12_who_61 rfl sh_141 (Nat.le_of_ble_eq_true rfl) (by omega) (by omega) (fun r_61 => ?_)
            rw [er2] at r_61 ⊢
            refine s_icmp_ge 75 65 dX12_who_62 rfl rfl (by first | omega | exact bI_r _ | exact iI_r _) (by first | omega | exact bI_r _ | exact iI_r _) (fun h_62 => by exfalso; omega) (fun h_62 => ?_)
            refine s_iload_n 66 dX12_who_65 rfl rfl ?_
            refine s_iload_n 67 dX12_who_66 rfl rfl ?_
            refine s_imul 68 dX12_who_67 rfl ?_
            refine s_istore_n (ls' := [_, _, _, _, _, _, _]) 69 dX12_who_68 rfl (Nat.le_of_ble_eq_true rfl) rfl rfl ?_
            refine s_iinc (ls' := [_, _, _, _, _, _, _]) 72 dX12_who_69 rfl rfl (Nat.le_of_ble_eq_true rfl) rfl rfl ?_
            refine s_goto 55 dX12_who_72 rfl ?_
            rw [← pwF_s z2]; exact ih (p + 1) I1 _ _ _ (by omega) (by omega) (by omega) j1 j2
          · have ep : p = r 4 := by omega
            have pN := pb (r 4).toNat (by omega)
            refine s_iload_n 56 dX12_who_55 rfl rfl ?_
            refine s_aload_n 57 dX12_who_56 rfl rfl ?_
            refine s_getR 60 dX12_who_57 rfl fl_X12_20 (fun _ _ _ _ => rfl) (T_X12_r hT) sh_138 (Nat.le_of_ble_eq_true rfl) ?_
            refine s_iconst 61 dX12_who_60 rfl ?_
            refine s_iald 62 dX12_who_61 rfl sh_141 (Nat.le_of_ble_eq_true rfl) (by omega) (by omega) (fun r_61 => ?_)
            rw [er2] at r_61 ⊢
            refine s_icmp_ge 75 65 dX12_who_62 rfl rfl (by first | omega | exact bI_r _ | exact iI_r _) (by first | omega | exact bI_r _ | exact iI_r _) (fun h_62 => ?_) (fun h_62 => by exfalso; omega)
            refine s_iconst 76 dX12_who_75 rfl ?_
            refine s_istore_n (ls' := [_, _, _, _, _, _, _]) 77 dX12_who_76 rfl (Nat.le_of_ble_eq_true rfl) rfl rfl ?_
            refine s_iconst 78 dX12_who_77 rfl ?_
            refine s_istore (ls' := [_, _, _, _, _, _, _]) 80 dX12_who_78 rfl (Nat.le_of_ble_eq_true rfl) rfl rfl ?_
            rw [ep]; exact loop3 _ rfl (pwF i (r 4).toNat + 1).toNat 0 I1 _ _ (by omega) (by omega) (by omega) j1 j2
      refine s_aload_n 1 dX12_who_0 rfl rfl ?_
      refine s_callV0 (M' := M_X12_good) (as := []) 4 dX12_who_1 rfl cw_X12_190 rfl rfl sh_138 rfl (by decide) (Nat.le_of_ble_eq_true rfl) (Nat.le_of_ble_eq_true rfl) (Nat.le_of_ble_eq_true rfl) (Nat.le_of_ble_eq_true rfl) ⟨rfl, rfl, rfl⟩ ?_
      refine c_X12_good ?_
      refine s_aload_n 5 dX12_who_4 rfl rfl ?_
      refine s_getI 8 dX12_who_5 rfl fl_X12_203 (fun _ _ _ _ => rfl) sh_138 (Nat.le_of_ble_eq_true rfl) (fun r_5 => ?_)
      rw [ehp1, bI_t hP]
      refine s_if_ne 17 11 dX12_who_8 rfl rfl (by first | omega | exact bI_r _ | exact iI_r _) (fun h_8 => ?_) (fun h_8 => by exfalso; omega)
      refine s_iload_n 18 dX12_who_17 rfl rfl ?_
      refine s_iconst 19 dX12_who_18 rfl ?_
      refine s_iconst 20 dX12_who_19 rfl ?_
      refine s_callS0 (M' := M_X12_within) (as := [_, _, _]) 23 dX12_who_20 rfl cw_X12_174 rfl rfl (Nat.le_of_ble_eq_true rfl) (Nat.le_of_ble_eq_true rfl) (Nat.le_of_ble_eq_true rfl) ⟨rfl, rfl, rfl⟩ ?_
      refine c_X12_within (by omega) (by omega) (by omega) ?_
      refine s_ifb_ne 32 26 dX12_who_23 rfl rfl (fun h_23 => ?_) (fun h_23 => by exfalso; exact absurd hC h_23)
      refine s_aload_n 33 dX12_who_32 rfl rfl ?_
      refine s_aload_n 34 dX12_who_33 rfl rfl ?_
      refine s_getR 37 dX12_who_34 rfl fl_X12_26 (fun _ _ _ _ => rfl) (T_X12_st hT) sh_138 (Nat.le_of_ble_eq_true rfl) ?_
      refine s_callV0 (M' := M_X12_layTime) (as := [_]) 40 dX12_who_37 rfl cw_X12_305 rfl rfl sh_138 rfl (by decide) (Nat.le_of_ble_eq_true rfl) (Nat.le_of_ble_eq_true rfl) (Nat.le_of_ble_eq_true rfl) (Nat.le_of_ble_eq_true rfl) ⟨rfl, rfl, rfl⟩ ?_
      refine c_X12_layTime hT er1 hrr rfl sh_143 (by decide) (by decide) (by decide) es1 (hr hP).p (fun I1 hL => ?_)
      have er : I1 141 = r := (hL.1 141 (by decide)).trans er1
      have es2 : I1 143 = s := (hL.1 143 (by decide)).trans es1
      have erd2 : I1 138 30 = -1 := (congrFun (hL.1 138 (by decide)) 30).trans erd1
      obtain ⟨q1, q2⟩ := hL.rep hrr (hr hP).p (by omega)
      refine s_aload_n 41 dX12_who_40 rfl rfl ?_
      refine s_aload_n 42 dX12_who_41 rfl rfl ?_
      refine s_getR 45 dX12_who_42 rfl fl_X12_26 (fun _ _ _ _ => rfl) (T_X12_st hT) sh_138 (Nat.le_of_ble_eq_true rfl) ?_
      refine s_bipush 47 dX12_who_45 rfl (by decide) ?_
      refine s_iald 48 dX12_who_47 rfl sh_143 (Nat.le_of_ble_eq_true rfl) (by omega) (by omega) (fun r_47 => ?_)
      rw [es2] at r_47 ⊢
      refine s_callV0 (M' := M_X12_layMay) (as := [_]) 51 dX12_who_48 rfl cw_X12_360 rfl rfl sh_138 rfl (by decide) (Nat.le_of_ble_eq_true rfl) (Nat.le_of_ble_eq_true rfl) (Nat.le_of_ble_eq_true rfl) (Nat.le_of_ble_eq_true rfl) ⟨rfl, rfl, rfl⟩ ?_
      refine c_X12_layMay hT er erd2 rfl rfl rfl hrr q1 q2 (fun I2 h4 h5 => ?_)
      refine s_iconst 52 dX12_who_51 rfl ?_
      refine s_istore_n (ls' := [_, _, _, _, _, _, _]) 53 dX12_who_52 rfl (Nat.le_of_ble_eq_true rfl) rfl rfl ?_
      refine s_iconst 54 dX12_who_53 rfl ?_
      refine s_istore_n (ls' := [_, _, _, _, _, _, _]) 55 dX12_who_54 rfl (Nat.le_of_ble_eq_true rfl) rfl rfl ?_
      refine loop1 (r 4 + 1).toNat 0 I2 _ _ _ (by omega) (by omega) (by omega) ((hL.1.mo (by decide)).tr (h4.mo (by decide))) (fun x x1 x2 => ?_)
      rw [h5 x x1 x2]; exact bI_c (MayB_P hL hrr)
    · rw [pick_f hC, pick_f hC] at h
      refine s_aload_n 1 dX12_who_0 rfl rfl ?_
      refine s_callV0 (M' := M_X12_good) (as := []) 4 dX12_who_1 rfl cw_X12_190 rfl rfl sh_138 rfl (by decide) (Nat.le_of_ble_eq_true rfl) (Nat.le_of_ble_eq_true rfl) (Nat.le_of_ble_eq_true rfl) (Nat.le_of_ble_eq_true rfl) ⟨rfl, rfl, rfl⟩ ?_
      refine c_X12_good ?_
      refine s_aload_n 5 dX12_who_4 rfl rfl ?_
      refine s_getI 8 dX12_who_5 rfl fl_X12_203 (fun _ _ _ _ => rfl) sh_138 (Nat.le_of_ble_eq_true rfl) (fun r_5 => ?_)
      rw [ehp1, bI_t hP]
      refine s_if_ne 17 11 dX12_who_8 rfl rfl (by first | omega | exact bI_r _ | exact iI_r _) (fun h_8 => ?_) (fun h_8 => by exfalso; omega)
      refine s_iload_n 18 dX12_who_17 rfl rfl ?_
      refine s_iconst 19 dX12_who_18 rfl ?_
      refine s_iconst 20 dX12_who_19 rfl ?_
      refine s_callS0 (M' := M_X12_within) (as := [_, _, _]) 23 dX12_who_20 rfl cw_X12_174 rfl rfl (Nat.le_of_ble_eq_true rfl) (Nat.le_of_ble_eq_true rfl) (Nat.le_of_ble_eq_true rfl) ⟨rfl, rfl, rfl⟩ ?_
      refine c_X12_within (by omega) (by omega) (by omega) ?_
      refine s_ifb_ne 32 26 dX12_who_23 rfl rfl (fun h_23 => by exfalso; exact absurd h_23 hC) (fun h_23 => ?_)
      refine s_aload_n 27 dX12_who_26 rfl rfl ?_
      refine s_iconst 28 dX12_who_27 rfl ?_
      refine s_callV0 (M' := M_X12_no) (as := [_]) 31 dX12_who_28 rfl cw_X12_193 rfl rfl sh_138 rfl (by decide) (Nat.le_of_ble_eq_true rfl) (Nat.le_of_ble_eq_true rfl) (Nat.le_of_ble_eq_true rfl) (Nat.le_of_ble_eq_true rfl) ⟨rfl, rfl, rfl⟩ ?_
      refine c_X12_no (by omega) ?_
      refine s_iret dX12_who_31 rfl rfl ?_
      rw [show up (up (up I 138 0 0) 138 11 0) 138 11 2 = gd I 2 from gd_no]; exact h _ Eqo.rf
  · rw [pick_f hP, pick_f hP] at h
    refine s_aload_n 1 dX12_who_0 rfl rfl ?_
    refine s_callV0 (M' := M_X12_good) (as := []) 4 dX12_who_1 rfl cw_X12_190 rfl rfl sh_138 rfl (by decide) (Nat.le_of_ble_eq_true rfl) (Nat.le_of_ble_eq_true rfl) (Nat.le_of_ble_eq_true rfl) (Nat.le_of_ble_eq_true rfl) ⟨rfl, rfl, rfl⟩ ?_
    refine c_X12_good ?_
    refine s_aload_n 5 dX12_who_4 rfl rfl ?_
    refine s_getI 8 dX12_who_5 rfl fl_X12_203 (fun _ _ _ _ => rfl) sh_138 (Nat.le_of_ble_eq_true rfl) (fun r_5 => ?_)
    rw [ehp1, bI_f hP]
    refine s_if_ne 17 11 dX12_who_8 rfl rfl (by first | omega | exact bI_r _ | exact iI_r _) (fun h_8 => by exfalso; exact absurd rfl h_8) (fun h_8 => ?_)
    refine s_aload_n 12 dX12_who_11 rfl rfl ?_
    refine s_iconst 13 dX12_who_12 rfl ?_
    refine s_callV0 (M' := M_X12_no) (as := [_]) 16 dX12_who_13 rfl cw_X12_193 rfl rfl sh_138 rfl (by decide) (Nat.le_of_ble_eq_true rfl) (Nat.le_of_ble_eq_true rfl) (Nat.le_of_ble_eq_true rfl) (Nat.le_of_ble_eq_true rfl) ⟨rfl, rfl, rfl⟩ ?_
    refine c_X12_no (by decide) ?_
    first | rw [show up (up (up I 138 0 0) 138 11 0) 138 11 1 = gd I 1 from gd_no] | rw [show up (up (up I 138 0 0) 138 11 0) 138 11 2 = gd I 2 from gd_no]
    refine s_iret dX12_who_16 rfl rfl ?_
    exact h _ Eqo.rf
