/-! CASTING: the cheapest cuts -/
theorem has_tb {x k : Int} (hx : 0 ≤ x ∧ x ≤ 2147483647) (hk : 0 ≤ k ∧ k < 32) : hasI x k ↔ (x.toNat / 2 ^ k.toNat) % 2 = 1 := by
  rw [has_bt hk]
  unfold bt
  have e : (iI x).toBitVec.toNat = x.toNat := by
    have e1 : iI x = nI x.toNat := by rw [← iI_nat]; congr 1; omega
    rw [e1, pk_tn (by omega)]
  rw [← BitVec.testBit_toNat, e, Nat.testBit_eq_decide_div_mod_eq, decide_eq_true_eq]
def wtF (x : Int) : Nat → Int
  | 0 => 0
  | k + 1 => wtF x k + if hasI x k then 16384 + ((2 ^ k : Nat) : Int) else 0
theorem wt_n {x : Int} (hx : 0 ≤ x ∧ x ≤ 2147483647) : ∀ n : Nat, n ≤ 31 → wtF x n = 16384 * (cn x n : Int) + ((x.toNat % 2 ^ n : Nat) : Int)
  | 0, _ => by
    show (0 : Int) = 16384 * ((0 : Nat) : Int) + ((x.toNat % 2 ^ 0 : Nat) : Int)
    rw [Nat.pow_zero, Nat.mod_one]
    omega
  | n + 1, hn => by
    have ih := wt_n hx n (by omega)
    have e := Nat.mod_pow_succ (x := x.toNat) (b := 2) (k := n)
    have hb := has_tb hx (k := (n : Int)) ⟨by omega, by omega⟩
    rw [Int.toNat_natCast] at hb
    unfold wtF cn
    rw [e, ih]
    by_cases z : hasI x (n : Int)
    · rw [if_pos z, if_pos z, hb.mp z, Nat.mul_one]
      omega
    · have z0 : (x.toNat / 2 ^ n) % 2 = 0 := by
        have : ¬ (x.toNat / 2 ^ n) % 2 = 1 := fun y => z (hb.mpr y)
        omega
      rw [if_neg z, if_neg z, z0, Nat.mul_zero]
      omega
theorem wt_eq {x : Int} (hx : 0 ≤ x ∧ x < 16384) : wtF x 14 = bits x * 16384 + x := by
  have e1 : bits x = (cn x 14 : Int) := bc_cn x 14 (by decide)
  rw [wt_n ⟨hx.1, by omega⟩ 14 (by decide), e1, Nat.mod_eq_of_lt (by omega)]
  omega
theorem wt_add {x y z : Int} : ∀ {n : Nat} (_ : ∀ k : Int, 0 ≤ k → k < n → (hasI z k ↔ hasI x k ∨ hasI y k) ∧ ¬ (hasI x k ∧ hasI y k)), wtF z n = wtF x n + wtF y n
  | 0, _ => rfl
  | n + 1, h => by
    have ih := wt_add (x := x) (y := y) (z := z) (n := n) (fun k a b => h k a (by omega))
    have hn := h n (by omega) (by omega)
    unfold wtF
    rw [ih]
    by_cases a : hasI x (n : Int)
    · have b : ¬ hasI y (n : Int) := fun b => hn.2 ⟨a, b⟩
      rw [if_pos (hn.1.mpr (Or.inl a)), if_pos a, if_neg b]; omega
    · by_cases b : hasI y (n : Int)
      · rw [if_pos (hn.1.mpr (Or.inr b)), if_neg a, if_pos b]; omega
      · rw [if_neg (fun c => (hn.1.mp c).elim a b), if_neg a, if_neg b]; omega
theorem wt_nn (x : Int) : ∀ n : Nat, 0 ≤ wtF x n
  | 0 => Int.le_refl _
  | n + 1 => by
    have := wt_nn x n
    have hp : (0 : Int) ≤ ((2 ^ n : Nat) : Int) := Int.natCast_nonneg _
    unfold wtF
    generalize ((2 ^ n : Nat) : Int) = p at *
    split <;> omega
def Cst (lc : Int → Int) : Nat → Int → Int → Prop
  | 0, s, w => s = 0 ∧ w = 0
  | m + 1, s, w => (s = 0 ∧ w = 0) ∨ ∃ o w', 0 < o ∧ o ≤ 127 ∧ sub o s ∧ iand o (lowI s) ≠ 0 ∧ Cst lc m (andN s o) w' ∧ w = lc o + w'
def ChV (lc : Int → Int) (m : Nat) (s v : Int) : Prop := 0 ≤ v ∧ v ≤ 65536 ∧ (v < 65536 → Cst lc m s v) ∧ ∀ w, Cst lc m s w → v ≤ w
theorem Cst_low {lc : Int → Int} {m : Nat} {s w : Int} (hs : 0 < s ∧ s ≤ 127) : Cst lc (m + 1) s w ↔ ∃ x w', 0 ≤ x ∧ sub x (ixor s (lowI s)) ∧ Cst lc m (ixor (ixor s (lowI s)) x) w' ∧ w = lc (ior (lowI s) x) + w' := by
  have lo := low_ok hs
  constructor
  · rintro (h | ⟨o, w', o1, o2, o3, o4, o6, o7⟩)
    · omega
    · have b := blk_of ⟨by omega, hs.2⟩ ⟨by omega, o2⟩ o3 o4
      have k := blk_ok hs ⟨b.2.2.1, b.2.2.2.1⟩ b.1
      refine ⟨ixor o (lowI s), w', b.2.2.1, b.1, ?_, by rw [b.2.1]; exact o7⟩
      rw [k.2.2.2.2, b.2.1]; exact o6
  · rintro ⟨x, w', x1, x2, x4, x5⟩
    have xl := sub_le ⟨by omega, by omega⟩ x2
    have k := blk_ok hs ⟨x1, by omega⟩ x2
    refine Or.inr ⟨ior (lowI s) x, w', k.1, by omega, k.2.2.1, k.2.2.2.1, ?_, x5⟩
    rw [← k.2.2.2.2]; exact x4
theorem Cst_nn {lc : Int → Int} (hl : ∀ s, 0 ≤ s → s ≤ 127 → 0 ≤ lc s) : ∀ {m : Nat} {s w : Int}, Cst lc m s w → 0 ≤ w
  | 0, s, w, h => by have := h.2; omega
  | m + 1, s, w, h => by
    rcases h with h | ⟨o, w', o1, o2, o3, o4, o6, o7⟩
    · omega
    · have := Cst_nn hl o6
      have := hl o (by omega) o2
      omega
theorem Cst_0 {lc : Int → Int} : ∀ m : Nat, Cst lc m 0 0
  | 0 => ⟨rfl, rfl⟩
  | _ + 1 => Or.inl ⟨rfl, rfl⟩
set_option maxHeartbeats 4000000 in
theorem c_X1_cheapest (d : Nat) : ∀ {E : ET} {I : MI} {L : ML} {R : MR} {Q : Option AV → MI → ML → MR → Prop} {lc : F1} {rest m : Int} (hT : Topo R) (hlc : ∀ s, 0 ≤ s → s ≤ 127 → I 110 s = lc s ∧ 0 ≤ lc s ∧ lc s ≤ 65536) (hr0 : 0 ≤ rest ∧ rest ≤ 127) (hm : 1 ≤ m) (hd : m ≤ (d : Int)) (hm3 : m ≤ 3) (h : ∀ v, ChV lc m.toNat rest v → Q (some (vi v)) I L R), CT E (M_X1_cheapest d) 161 yX1_cheapest [(vr (107)), (vi (rest)), (vi (m))] I L R Q := by
  induction d with
  | zero => intros; exfalso; omega
  | succ d ih =>
  intro E I L R Q lc rest m hT hlc hr0 hm hd hm3 h
  refine CT_of rfl rfl (fun h => by cases h) (Nat.le_of_ble_eq_true rfl) (fun X => ?_)
  show V X _ z0 0 [some (vr (107)), some (vi (rest)), some (vi (m)), none, none, none, none, none] [] I L R _
  have hl : ∀ s, 0 ≤ s → s ≤ 127 → 0 ≤ lc s := fun s a b => (hlc s a b).2.1
  by_cases hz : rest = 0
  · subst hz
    refine s_iload_n 1 dX1_cheapest_0 rfl rfl ?_
    refine s_if_ne 6 4 dX1_cheapest_1 rfl rfl (by first | omega | exact bI_r _ | exact iI_r _) (fun h_1 => by exfalso; omega) (fun h_1 => ?_)
    refine s_iconst 5 dX1_cheapest_4 rfl ?_
    refine s_iret dX1_cheapest_5 rfl rfl ?_
    exact h 0 ⟨by omega, by omega, fun _ => Cst_0 _, fun w hw => Cst_nn hl hw⟩
  · have hs : 0 < rest ∧ rest ≤ 127 := by omega
    have lo := low_ok hs
    by_cases hm1 : m = 1
    · subst hm1
      have lr := hlc rest hr0.1 hr0.2
      have e1 : ∀ w, Cst lc (1 : Int).toNat rest w ↔ w = lc rest := by
        intro w
        constructor
        · rintro (z | ⟨o, w', o1, o2, o3, o4, o6, o7⟩)
          · omega
          · have o8 : andN rest o = 0 := o6.1
            unfold andN at o8
            have : o = rest := set_ext (by omega) (by omega) (fun k k1 k2 => ⟨fun y => sub_has o3 ⟨k1, k2⟩ y, fun y => (andn_0 (by omega)).mp o8 k k1 k2 y⟩)
            subst this
            have := o6.2
            omega
        · intro z
          refine Or.inr ⟨rest, 0, hs.1, hs.2, chk_self ⟨by omega, hs.2⟩, ?_, ⟨?_, rfl⟩, by omega⟩
          · have y := lo.2.2.1
            unfold sub at y
            rw [show iand rest (lowI rest) = iand (lowI rest) rest from set_ext (iand_r _ _) (iand_r _ _) (fun k k1 k2 => by rw [has_and ⟨k1, k2⟩, has_and ⟨k1, k2⟩]; exact And.comm), y]
            omega
          · unfold andN
            exact (andn_0 (by omega)).mpr (fun k k1 k2 k3 => k3)
      refine s_iload_n 1 dX1_cheapest_0 rfl rfl ?_
      refine s_if_ne 6 4 dX1_cheapest_1 rfl rfl (by first | omega | exact bI_r _ | exact iI_r _) (fun h_1 => ?_) (fun h_1 => by exfalso; omega)
      refine s_iload_n 7 dX1_cheapest_6 rfl rfl ?_
      refine s_iconst 8 dX1_cheapest_7 rfl ?_
      refine s_icmp_gt 28 11 dX1_cheapest_8 rfl rfl (by first | omega | exact bI_r _ | exact iI_r _) (by first | omega | exact bI_r _ | exact iI_r _) (fun h_8 => by exfalso; omega) (fun h_8 => ?_)
      refine s_iload_n 12 dX1_cheapest_11 rfl rfl ?_
      refine s_iconst 13 dX1_cheapest_12 rfl ?_
      refine s_icmp_ne 25 16 dX1_cheapest_13 rfl rfl (by first | omega | exact bI_r _ | exact iI_r _) (by first | omega | exact bI_r _ | exact iI_r _) (fun h_13 => by exfalso; omega) (fun h_13 => ?_)
      refine s_aload_n 17 dX1_cheapest_16 rfl rfl ?_
      refine s_getR 20 dX1_cheapest_17 rfl fl_X1_26 (fun _ _ _ _ => rfl) (T_X1_leastCuts hT) sh_107 (Nat.le_of_ble_eq_true rfl) ?_
      refine s_iload_n 21 dX1_cheapest_20 rfl rfl ?_
      refine s_iald 22 dX1_cheapest_21 rfl sh_110 (Nat.le_of_ble_eq_true rfl) (by omega) (by omega) (fun r_21 => ?_)
      rw [lr.1]
      refine s_goto 27 dX1_cheapest_22 rfl ?_
      refine s_iret dX1_cheapest_27 rfl rfl ?_
      exact h (lc rest) ⟨lr.2.1, lr.2.2, fun _ => (e1 _).mpr rfl, fun w hw => by rw [(e1 w).mp hw]; exact Int.le_refl _⟩
    · obtain ⟨c9, ec⟩ : ∃ c9, c9 = (m - 1).toNat := ⟨_, rfl⟩
      have em : m.toNat = c9 + 1 := by omega
      rw [em] at h
      have rec0 : ∀ {Q' : QT} {x : Int}, (0 ≤ x ∧ x ≤ 127) → (∀ v, ChV lc c9 x v → Q' (some (vi v)) I L R) → CT (xE X) (M_X1_cheapest d) 161 yX1_cheapest [vr 107, vi x, vi (m - 1)] I L R Q' := fun hx hQ => ih hT hlc hx (by omega) (by omega) (by omega) (by rw [← ec]; exact hQ)
      have key := fun w => Cst_low (lc := lc) (m := c9) (w := w) hs
      have loop : ∀ (f : Nat) (x lst : Int) (w7 : Option AV), x < (f : Int) → 0 ≤ x → sub x (ixor rest (lowI rest)) → 0 ≤ lst → lst ≤ 65536 → (lst < 65536 → Cst lc (c9 + 1) rest lst) → (∀ y w', 0 ≤ y → (y = 0 ∨ x < y) → sub y (ixor rest (lowI rest)) → Cst lc c9 (ixor (ixor rest (lowI rest)) y) w' → lst ≤ lc (ior (lowI rest) y) + w') → V X (M_X1_cheapest (d + 1)) z0 65 [some (vr 107), some (vi rest), some (vi m), some (vi (lowI rest)), some (vi (ixor rest (lowI rest))), some (vi lst), some (vi x), w7] [] I L R (RT X (M_X1_cheapest (d + 1)) Q) := by
        intro f
        induction f with
        | zero => intro x lst w7 h1 h2; omega
        | succ f ih2 =>
          intro x lst w7 h1 h2 h3 h4 h5 h6 h7
          have xl := sub_le ⟨by omega, by omega⟩ h3
          by_cases hx : x = 0
          · subst hx
            refine s_iload 67 dX1_cheapest_65 rfl rfl ?_
            refine s_if_le 122 70 dX1_cheapest_67 rfl rfl (by first | omega | exact bI_r _ | exact iI_r _) (fun h_67 => ?_) (fun h_67 => by exfalso; omega)
            refine s_iload 124 dX1_cheapest_122 rfl rfl ?_
            refine s_iret dX1_cheapest_124 rfl rfl ?_
            refine h lst ⟨h4, h5, h6, fun w hw => ?_⟩
            obtain ⟨y, w', y1, y2, y3, y4⟩ := (key w).mp hw
            rw [y4]
            exact h7 y w' y1 (by omega) y2 y3
          · have nx := sub_next (s := ixor rest (lowI rest)) ⟨by omega, by omega⟩ ⟨by omega, by omega⟩ h3
            have bk := blk_ok hs ⟨h2, by omega⟩ h3
            have lx := hlc (ior (lowI rest) x) (by omega) (by omega)
            have xs := sub_x (s := ixor rest (lowI rest)) ⟨by omega, by omega⟩ h3
            have go : ∀ (l2 : Int) (w7 : Option AV), 0 ≤ l2 → l2 ≤ lst → (l2 < 65536 → Cst lc (c9 + 1) rest l2) → (∀ w', Cst lc c9 (ixor (ixor rest (lowI rest)) x) w' → l2 ≤ lc (ior (lowI rest) x) + w') → V X (M_X1_cheapest (d + 1)) z0 65 [some (vr 107), some (vi rest), some (vi m), some (vi (lowI rest)), some (vi (ixor rest (lowI rest))), some (vi l2), some (vi (iand (x - 1) (ixor rest (lowI rest)))), w7] [] I L R (RT X (M_X1_cheapest (d + 1)) Q) := fun l2 w7 a1 a2 a3 a4 => ih2 _ l2 w7 (by omega) nx.1 nx.2.2.1 a1 (by omega) a3 (fun y w' y1 y2 y3 y4 => by
              by_cases e : y = x
              · subst e; exact a4 w' y4
              · by_cases e2 : y = 0 ∨ x < y
                · have := h7 y w' y1 e2 y3 y4; omega
                · have := nx.2.2.2.2.2.2 y y1 (by omega) y3; omega)
            by_cases hlt : lc (ior (lowI rest) x) < lst
            · skip
              refine s_iload 67 dX1_cheapest_65 rfl rfl ?_
              refine s_if_le 122 70 dX1_cheapest_67 rfl rfl (by first | omega | exact bI_r _ | exact iI_r _) (fun h_67 => by exfalso; omega) (fun h_67 => ?_)
              refine s_aload_n 71 dX1_cheapest_70 rfl rfl ?_
              refine s_getR 74 dX1_cheapest_71 rfl fl_X1_26 (fun _ _ _ _ => rfl) (T_X1_leastCuts hT) sh_107 (Nat.le_of_ble_eq_true rfl) ?_
              refine s_iload_n 75 dX1_cheapest_74 rfl rfl ?_
              refine s_iload 77 dX1_cheapest_75 rfl rfl ?_
              refine s_ior 78 dX1_cheapest_77 rfl ?_
              refine s_iald 79 dX1_cheapest_78 rfl sh_110 (Nat.le_of_ble_eq_true rfl) (by omega) (by omega) (fun r_78 => ?_)
              rw [lx.1]
              refine s_istore (ls' := [_, _, _, _, _, _, _, _]) 81 dX1_cheapest_79 rfl (Nat.le_of_ble_eq_true rfl) rfl rfl ?_
              refine s_iload 83 dX1_cheapest_81 rfl rfl ?_
              refine s_iload 85 dX1_cheapest_83 rfl rfl ?_
              refine s_icmp_ge 110 88 dX1_cheapest_85 rfl rfl (by first | omega | exact bI_r _ | exact iI_r _) (by first | omega | exact bI_r _ | exact iI_r _) (fun h_85 => by exfalso; omega) (fun h_85 => ?_)
              refine s_iload 90 dX1_cheapest_88 rfl rfl ?_
              refine s_iload 92 dX1_cheapest_90 rfl rfl ?_
              refine s_aload_n 93 dX1_cheapest_92 rfl rfl ?_
              refine s_iload 95 dX1_cheapest_93 rfl rfl ?_
              refine s_iload 97 dX1_cheapest_95 rfl rfl ?_
              refine s_ixor 98 dX1_cheapest_97 rfl ?_
              refine s_iload_n 99 dX1_cheapest_98 rfl rfl ?_
              refine s_iconst 100 dX1_cheapest_99 rfl ?_
              refine s_isub 101 dX1_cheapest_100 rfl ?_
              refine s_callV0 (M' := (M_X1_cheapest d)) (as := [_, _]) 104 dX1_cheapest_101 rfl cw_X1_92 rfl rfl sh_107 rfl (by decide) (Nat.le_of_ble_eq_true rfl) (by first | exact Nat.le_of_ble_eq_true rfl | (simp only [mrk]; omega)) (Nat.le_of_ble_eq_true rfl) (Nat.le_of_ble_eq_true rfl) ⟨rfl, rfl, rfl⟩ ?_
              refine rec0 xs (fun v hv => ?_)
              have v1 := hv.1
              have v2 := hv.2.1
              refine s_iadd 105 dX1_cheapest_104 rfl ?_
              refine s_mmin 108 dX1_cheapest_105 rfl w_m_X1_98 (by first | exact Nat.le_of_ble_eq_true rfl | (simp only [mrk]; omega)) (Nat.le_of_ble_eq_true rfl) (by first | omega | exact bI_r _ | exact iI_r _) (by first | omega | exact bI_r _ | exact iI_r _) ?_
              refine s_istore (ls' := [_, _, _, _, _, _, _, _]) 110 dX1_cheapest_108 rfl (Nat.le_of_ble_eq_true rfl) rfl rfl ?_
              refine s_iload 112 dX1_cheapest_110 rfl rfl ?_
              refine s_iconst 113 dX1_cheapest_112 rfl ?_
              refine s_isub 114 dX1_cheapest_113 rfl ?_
              refine s_iload 116 dX1_cheapest_114 rfl rfl ?_
              refine s_iand 117 dX1_cheapest_116 rfl ?_
              refine s_istore (ls' := [_, _, _, _, _, _, _, _]) 119 dX1_cheapest_117 rfl (Nat.le_of_ble_eq_true rfl) rfl rfl ?_
              refine s_goto 65 dX1_cheapest_119 rfl ?_
              refine go _ _ ?_ ?_ ?_ ?_
              · split <;> omega
              · split <;> omega
              · intro z
                by_cases y : lc (ior (lowI rest) x) + v < lst
                · rw [if_pos y] at z ⊢
                  exact (key _).mpr ⟨x, v, h2, h3, hv.2.2.1 (by omega), rfl⟩
                · rw [if_neg y] at z ⊢; exact h6 z
              · intro w' hw'
                have := hv.2.2.2 w' hw'
                split <;> omega
            · skip
              refine s_iload 67 dX1_cheapest_65 rfl rfl ?_
              refine s_if_le 122 70 dX1_cheapest_67 rfl rfl (by first | omega | exact bI_r _ | exact iI_r _) (fun h_67 => by exfalso; omega) (fun h_67 => ?_)
              refine s_aload_n 71 dX1_cheapest_70 rfl rfl ?_
              refine s_getR 74 dX1_cheapest_71 rfl fl_X1_26 (fun _ _ _ _ => rfl) (T_X1_leastCuts hT) sh_107 (Nat.le_of_ble_eq_true rfl) ?_
              refine s_iload_n 75 dX1_cheapest_74 rfl rfl ?_
              refine s_iload 77 dX1_cheapest_75 rfl rfl ?_
              refine s_ior 78 dX1_cheapest_77 rfl ?_
              refine s_iald 79 dX1_cheapest_78 rfl sh_110 (Nat.le_of_ble_eq_true rfl) (by omega) (by omega) (fun r_78 => ?_)
              rw [lx.1]
              refine s_istore (ls' := [_, _, _, _, _, _, _, _]) 81 dX1_cheapest_79 rfl (Nat.le_of_ble_eq_true rfl) rfl rfl ?_
              refine s_iload 83 dX1_cheapest_81 rfl rfl ?_
              refine s_iload 85 dX1_cheapest_83 rfl rfl ?_
              refine s_icmp_ge 110 88 dX1_cheapest_85 rfl rfl (by first | omega | exact bI_r _ | exact iI_r _) (by first | omega | exact bI_r _ | exact iI_r _) (fun h_85 => ?_) (fun h_85 => by exfalso; omega)
              refine s_iload 112 dX1_cheapest_110 rfl rfl ?_
              refine s_iconst 113 dX1_cheapest_112 rfl ?_
              refine s_isub 114 dX1_cheapest_113 rfl ?_
              refine s_iload 116 dX1_cheapest_114 rfl rfl ?_
              refine s_iand 117 dX1_cheapest_116 rfl ?_
              refine s_istore (ls' := [_, _, _, _, _, _, _, _]) 119 dX1_cheapest_117 rfl (Nat.le_of_ble_eq_true rfl) rfl rfl ?_
              refine s_goto 65 dX1_cheapest_119 rfl ?_
              refine go lst _ h4 (Int.le_refl _) h6 (fun w' hw' => ?_)
              have := Cst_nn hl hw'
              omega
      have ll := hlc (lowI rest) (by omega) (by omega)
      have e0 : ior (lowI rest) 0 = lowI rest := ior_0 (by omega)
      have e2 : ixor (ixor rest (lowI rest)) 0 = ixor rest (lowI rest) := ixor_0 (by omega)
      have s0 : sub 0 (ixor rest (lowI rest)) := sub_of (by decide) (fun k k1 k2 z => absurd z (has_0 ⟨k1, k2⟩))
      refine s_iload_n 1 dX1_cheapest_0 rfl rfl ?_
      refine s_if_ne 6 4 dX1_cheapest_1 rfl rfl (by first | omega | exact bI_r _ | exact iI_r _) (fun h_1 => ?_) (fun h_1 => by exfalso; omega)
      refine s_iload_n 7 dX1_cheapest_6 rfl rfl ?_
      refine s_iconst 8 dX1_cheapest_7 rfl ?_
      refine s_icmp_gt 28 11 dX1_cheapest_8 rfl rfl (by first | omega | exact bI_r _ | exact iI_r _) (by first | omega | exact bI_r _ | exact iI_r _) (fun h_8 => ?_) (fun h_8 => by exfalso; omega)
      refine s_iload_n 29 dX1_cheapest_28 rfl rfl ?_
      refine s_iload_n 30 dX1_cheapest_29 rfl rfl ?_
      refine s_ineg 31 dX1_cheapest_30 rfl ?_
      refine s_iand 32 dX1_cheapest_31 rfl ?_
      refine s_istore_n (ls' := [_, _, _, _, _, _, _, _]) 33 dX1_cheapest_32 rfl (Nat.le_of_ble_eq_true rfl) rfl rfl ?_
      refine s_iload_n 34 dX1_cheapest_33 rfl rfl ?_
      refine s_iload_n 35 dX1_cheapest_34 rfl rfl ?_
      refine s_ixor 36 dX1_cheapest_35 rfl ?_
      refine s_istore (ls' := [_, _, _, _, _, _, _, _]) 38 dX1_cheapest_36 rfl (Nat.le_of_ble_eq_true rfl) rfl rfl ?_
      refine s_ldc 40 dX1_cheapest_38 rfl _ ck_X1_32 ?_
      refine s_aload_n 41 dX1_cheapest_40 rfl rfl ?_
      refine s_getR 44 dX1_cheapest_41 rfl fl_X1_26 (fun _ _ _ _ => rfl) (T_X1_leastCuts hT) sh_107 (Nat.le_of_ble_eq_true rfl) ?_
      refine s_iload_n 45 dX1_cheapest_44 rfl rfl ?_
      rw [show iand rest (-rest) = lowI rest from rfl]
      refine s_iald 46 dX1_cheapest_45 rfl sh_110 (Nat.le_of_ble_eq_true rfl) (by omega) (by omega) (fun r_45 => ?_)
      rw [ll.1]
      refine s_aload_n 47 dX1_cheapest_46 rfl rfl ?_
      refine s_iload 49 dX1_cheapest_47 rfl rfl ?_
      refine s_iload_n 50 dX1_cheapest_49 rfl rfl ?_
      refine s_iconst 51 dX1_cheapest_50 rfl ?_
      refine s_isub 52 dX1_cheapest_51 rfl ?_
      refine s_callV0 (M' := (M_X1_cheapest d)) (as := [_, _]) 55 dX1_cheapest_52 rfl cw_X1_92 rfl rfl sh_107 rfl (by decide) (Nat.le_of_ble_eq_true rfl) (by first | exact Nat.le_of_ble_eq_true rfl | (simp only [mrk]; omega)) (Nat.le_of_ble_eq_true rfl) (Nat.le_of_ble_eq_true rfl) ⟨rfl, rfl, rfl⟩ ?_
      refine rec0 ⟨by omega, by omega⟩ (fun v hv => ?_)
      have v1 := hv.1
      have v2 := hv.2.1
      refine s_iadd 56 dX1_cheapest_55 rfl ?_
      refine s_mmin 59 dX1_cheapest_56 rfl w_m_X1_98 (by first | exact Nat.le_of_ble_eq_true rfl | (simp only [mrk]; omega)) (Nat.le_of_ble_eq_true rfl) (by first | omega | exact bI_r _ | exact iI_r _) (by first | omega | exact bI_r _ | exact iI_r _) ?_
      refine s_istore (ls' := [_, _, _, _, _, _, _, _]) 61 dX1_cheapest_59 rfl (Nat.le_of_ble_eq_true rfl) rfl rfl ?_
      refine s_iload 63 dX1_cheapest_61 rfl rfl ?_
      refine s_istore (ls' := [_, _, _, _, _, _, _, _]) 65 dX1_cheapest_63 rfl (Nat.le_of_ble_eq_true rfl) rfl rfl ?_
      refine loop 129 _ _ _ (by omega) lo.2.2.2.1 (chk_self ⟨by omega, by omega⟩) ?_ ?_ ?_ ?_
      · split <;> omega
      · split <;> omega
      · intro z
        by_cases y : lc (lowI rest) + v < 65536
        · rw [if_pos y] at z ⊢
          exact (key _).mpr ⟨0, v, by omega, s0, by rw [e2]; exact hv.2.2.1 (by omega), by rw [e0]⟩
        · rw [if_neg y] at z; omega
      · intro y w' y1 y2 y3 y4
        have yl := sub_le ⟨by omega, by omega⟩ y3
        have y5 : y = 0 := by omega
        subst y5
        rw [e2] at y4
        rw [e0]
        have := hv.2.2.2 w' y4
        split <;> omega
