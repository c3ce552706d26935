/-! the TOKENS of a text, as numbers; the reference's next() -/
def lkB (bt : F1) (n k : Int) : Int := if k < n then bt k else -1
def smB (c : Int) : Prop := 97 ≤ c ∧ c ≤ 122
def dgB (c : Int) : Prop := 48 ≤ c ∧ c ≤ 57
def IsRun (P : Int → Prop) (k e : Int) : Prop := k ≤ e ∧ (∀ j, k ≤ j → j < e → P j) ∧ ¬ P e
theorem IsRun.uq {P : Int → Prop} {k e f : Int} (h : IsRun P k e) (h' : IsRun P k f) : e = f := by
  rcases Int.lt_trichotomy e f with z | z | z
  · exact absurd (h'.2.1 e h.1 z) h.2.2
  · exact z
  · exact absurd (h.2.1 f h'.1 z) h'.2.2
noncomputable def rnE (P : Int → Prop) (k : Int) : Int := Classical.epsilon (IsRun P k)
theorem IsRun.v {P : Int → Prop} {k e : Int} (h : IsRun P k e) : rnE P k = e := IsRun.uq (Classical.epsilon_spec (p := IsRun P k) ⟨e, h⟩) h
noncomputable def skE (bt : F1) (n e : Int) : Int := rnE (fun j => j < n ∧ bt j = 32) e
/-- the place behind the TOKEN at a; its sort: 0 none, 2 a WORD, 3 a WHOLE, 59 and 44 themselves, 1 no good one -/
noncomputable def enE (bt : F1) (n a : Int) : Int := pick (a < n) (pick (smB (bt a)) (rnE (fun j => j < n ∧ smB (bt j)) a) (pick (dgB (bt a)) (rnE (fun j => j < n ∧ dgB (bt j)) a) (a + 1))) a
noncomputable def tkE (bt : F1) (n a : Int) : Int := pick (a < n) (pick (smB (bt a)) (pick (enE bt n a - a > 8) 1 2) (pick (dgB (bt a)) (pick (enE bt n a - a > 3) 1 3) (pick (bt a = 59 ∨ bt a = 44) (bt a) 1))) 0
noncomputable def wdE (bt : F1) (n a : Int) : List Int := (List.range (enE bt n a - a).toNat).map (fun j : Nat => bt (a + j))
def dvF (bt : F1) (a : Int) : Nat → Int
  | 0 => 0
  | j + 1 => 10 * dvF bt a j + bt (a + j) - 48
noncomputable def nuE (bt : F1) (n a : Int) : Int := dvF bt a (enE bt n a - a).toNat
noncomputable def nxE (bt : F1) (n a : Int) : Int := skE bt n (enE bt n a)
theorem dvF_s {bt : F1} {a k : Int} (h : a ≤ k) : dvF bt a (k + 1 - a).toNat = 10 * dvF bt a (k - a).toNat + bt k - 48 := by
  rw [show (k + 1 - a).toNat = (k - a).toNat + 1 by omega]
  show 10 * _ + bt (a + ((k - a).toNat : Nat)) - 48 = _
  rw [show a + (((k - a).toNat : Nat) : Int) = k by omega]
theorem dvF_b {bt : F1} {a : Int} : ∀ {m : Nat} (_ : ∀ j : Int, 0 ≤ j → j < m → dgB (bt (a + j))) (_ : m ≤ 3), 0 ≤ dvF bt a m ∧ dvF bt a m < 10 ^ m
  | 0, _, _ => by simp [dvF]
  | m + 1, h, hm => by
    have h1 := dvF_b (bt := bt) (a := a) (m := m) (fun j z1 z2 => h j z1 (by omega)) (by omega)
    have h2 := h m (by omega) (by omega)
    unfold dgB at h2
    have hc : m = 0 ∨ m = 1 ∨ m = 2 := by omega
    unfold dvF
    rcases hc with rfl | rfl | rfl <;> simp only [Nat.reducePow, Nat.reduceAdd, Int.reducePow] at h1 ⊢ <;> omega
/-- the TOKEN at a, in the reference -/
def TkR (I : MI) (bt : F1) (n a : Int) : Prop := (0 ≤ a ∧ a ≤ n) ∧ I 138 4 = a ∧ I 138 5 = enE bt n a ∧ (a ≤ enE bt n a ∧ enE bt n a ≤ n ∧ (a < n → a < enE bt n a)) ∧ I 138 6 = tkE bt n a ∧
  (tkE bt n a = 2 → I 138 8 = enE bt n a - a ∧ 1 ≤ enE bt n a - a ∧ enE bt n a - a ≤ 8 ∧ ∀ j, 0 ≤ j → j < enE bt n a - a → I 140 j = bt (a + j) ∧ smB (bt (a + j))) ∧ (tkE bt n a = 3 → I 138 7 = nuE bt n a ∧ 0 ≤ nuE bt n a ∧ nuE bt n a ≤ 999)
/-- only the token at hand has changed -/
def NxQ (I I' : MI) : Prop := Eqo [138, 140] I I' ∧ ∀ k : Int, k ∉ [4, 5, 6, 7, 8] → I' 138 k = I 138 k
theorem NxQ.rf {I : MI} : NxQ I I := ⟨Eqo.rf, fun _ _ => rfl⟩
theorem NxQ.fs {I I' : MI} (h : NxQ I I') {k v : Int} (hk : k ∈ [4, 5, 6, 7, 8]) : NxQ I (up I' 138 k v) :=
  ⟨h.1.st (by decide), fun j hj => by rw [upn (fun e => hj (by rw [e]; exact hk))]; exact h.2 j hj⟩
theorem NxQ.ls {I I' : MI} (h : NxQ I I') {k v : Int} : NxQ I (up I' 140 k v) :=
  ⟨h.1.st (by decide), fun j hj => by rw [up_ne (by decide)]; exact h.2 j hj⟩
theorem NxQ.tr {I I' I'' : MI} (h : NxQ I I') (h' : NxQ I' I'') : NxQ I I'' := ⟨h.1.tr h'.1, fun k hk => (h'.2 k hk).trans (h.2 k hk)⟩
set_option maxHeartbeats 4000000 in
theorem c_X12_look {E : ET} {I : MI} {L : ML} {R : MR} {Q : Option AV → MI → ML → MR → Prop} {bt : F1} {n k v : Int} (hT : Topo R) (et : I 139 = bt) (en : I 138 3 = n) (hn : 0 ≤ n ∧ n ≤ 900) (hk : 0 ≤ k ∧ k ≤ 100000) (hv : lkB bt n k = v) (h : Q (some (vi v)) I L R) : CT E M_X12_look 161 yX12_look [(vr (138)), (vi (k))] I L R Q := by
  refine CT_of rfl rfl (fun h => by cases h) (Nat.le_of_ble_eq_true rfl) (fun X => ?_)
  show V X _ z0 0 [some (vr (138)), some (vi (k))] [] I L R _
  subst en
  unfold lkB at hv
  subst hv
  refine s_iload_n 1 dX12_look_0 rfl rfl ?_
  refine s_aload_n 2 dX12_look_1 rfl rfl ?_
  refine s_getI 5 dX12_look_2 rfl fl_X12_90 (fun _ _ _ _ => rfl) sh_138 (Nat.le_of_ble_eq_true rfl) (fun r_2 => ?_)
  refine s_icmp_ge 17 8 dX12_look_5 rfl rfl (by first | omega | exact bI_r _ | exact iI_r _) (by first | omega | exact bI_r _ | exact iI_r _) (fun h_5 => ?_) (fun h_5 => ?_)
  · skip
    refine s_iconst 18 dX12_look_17 rfl ?_
    refine s_iret dX12_look_18 rfl rfl ?_
    first | (rw [if_pos (by omega)] at h; exact h) | (rw [if_neg (by omega)] at h; exact h)
  refine s_aload_n 9 dX12_look_8 rfl rfl ?_
  refine s_getR 12 dX12_look_9 rfl fl_X12_7 (fun _ _ _ _ => rfl) (T_X12_tape hT) sh_138 (Nat.le_of_ble_eq_true rfl) ?_
  refine s_iload_n 13 dX12_look_12 rfl rfl ?_
  refine s_iald 14 dX12_look_13 rfl sh_139 (Nat.le_of_ble_eq_true rfl) (by omega) (by omega) (fun r_13 => ?_)
  rw [et] at r_13 ⊢
  refine s_goto 18 dX12_look_14 rfl ?_
  refine s_iret dX12_look_18 rfl rfl ?_
  first | (rw [if_pos (by omega)] at h; exact h) | (rw [if_neg (by omega)] at h; exact h)
set_option maxHeartbeats 4000000 in
theorem c_X12_isSmall {E : ET} {I : MI} {L : ML} {R : MR} {Q : Option AV → MI → ML → MR → Prop} {c : Int} (hc : -2147483648 ≤ c ∧ c ≤ 2147483647) (h : Q (some (vi (bI (smB c)))) I L R) : CT E M_X12_isSmall 161 yX12_isSmall [(vi (c))] I L R Q := by
  refine CT_of rfl rfl (fun h => by cases h) (Nat.le_of_ble_eq_true rfl) (fun X => ?_)
  show V X _ z0 0 [some (vi (c))] [] I L R _
  refine s_iload_n 1 dX12_isSmall_0 rfl rfl ?_
  refine s_bipush 3 dX12_isSmall_1 rfl (by decide) ?_
  refine s_icmp_lt 16 6 dX12_isSmall_3 rfl rfl (by first | omega | exact bI_r _ | exact iI_r _) (by first | omega | exact bI_r _ | exact iI_r _) (fun h_3 => ?_) (fun h_3 => ?_)
  · skip
    refine s_iconst 17 dX12_isSmall_16 rfl ?_
    refine s_zret dX12_isSmall_17 rfl (by first | omega | exact bI_b _) rfl ?_
    first | exact ret_t (by unfold smB; omega) h | exact ret_f (by unfold smB; omega) h
  refine s_iload_n 7 dX12_isSmall_6 rfl rfl ?_
  refine s_bipush 9 dX12_isSmall_7 rfl (by decide) ?_
  refine s_icmp_gt 16 12 dX12_isSmall_9 rfl rfl (by first | omega | exact bI_r _ | exact iI_r _) (by first | omega | exact bI_r _ | exact iI_r _) (fun h_9 => ?_) (fun h_9 => ?_)
  · skip
    refine s_iconst 17 dX12_isSmall_16 rfl ?_
    refine s_zret dX12_isSmall_17 rfl (by first | omega | exact bI_b _) rfl ?_
    first | exact ret_t (by unfold smB; omega) h | exact ret_f (by unfold smB; omega) h
  refine s_iconst 13 dX12_isSmall_12 rfl ?_
  refine s_goto 17 dX12_isSmall_13 rfl ?_
  refine s_zret dX12_isSmall_17 rfl (by first | omega | exact bI_b _) rfl ?_
  first | exact ret_t (by unfold smB; omega) h | exact ret_f (by unfold smB; omega) h
set_option maxHeartbeats 4000000 in
theorem c_X12_isDigit {E : ET} {I : MI} {L : ML} {R : MR} {Q : Option AV → MI → ML → MR → Prop} {c : Int} (hc : -2147483648 ≤ c ∧ c ≤ 2147483647) (h : Q (some (vi (bI (dgB c)))) I L R) : CT E M_X12_isDigit 161 yX12_isDigit [(vi (c))] I L R Q := by
  refine CT_of rfl rfl (fun h => by cases h) (Nat.le_of_ble_eq_true rfl) (fun X => ?_)
  show V X _ z0 0 [some (vi (c))] [] I L R _
  refine s_iload_n 1 dX12_isDigit_0 rfl rfl ?_
  refine s_bipush 3 dX12_isDigit_1 rfl (by decide) ?_
  refine s_icmp_lt 16 6 dX12_isDigit_3 rfl rfl (by first | omega | exact bI_r _ | exact iI_r _) (by first | omega | exact bI_r _ | exact iI_r _) (fun h_3 => ?_) (fun h_3 => ?_)
  · skip
    refine s_iconst 17 dX12_isDigit_16 rfl ?_
    refine s_zret dX12_isDigit_17 rfl (by first | omega | exact bI_b _) rfl ?_
    first | exact ret_t (by unfold dgB; omega) h | exact ret_f (by unfold dgB; omega) h
  refine s_iload_n 7 dX12_isDigit_6 rfl rfl ?_
  refine s_bipush 9 dX12_isDigit_7 rfl (by decide) ?_
  refine s_icmp_gt 16 12 dX12_isDigit_9 rfl rfl (by first | omega | exact bI_r _ | exact iI_r _) (by first | omega | exact bI_r _ | exact iI_r _) (fun h_9 => ?_) (fun h_9 => ?_)
  · skip
    refine s_iconst 17 dX12_isDigit_16 rfl ?_
    refine s_zret dX12_isDigit_17 rfl (by first | omega | exact bI_b _) rfl ?_
    first | exact ret_t (by unfold dgB; omega) h | exact ret_f (by unfold dgB; omega) h
  refine s_iconst 13 dX12_isDigit_12 rfl ?_
  refine s_goto 17 dX12_isDigit_13 rfl ?_
  refine s_zret dX12_isDigit_17 rfl (by first | omega | exact bI_b _) rfl ?_
  first | exact ret_t (by unfold dgB; omega) h | exact ret_f (by unfold dgB; omega) h
theorem lkB_i {bt : F1} {n k : Int} (h : k < n) : lkB bt n k = bt k := if_pos h
theorem lkB_o {bt : F1} {n k : Int} (h : ¬ k < n) : lkB bt n k = -1 := if_neg h
theorem lkB_sm {bt : F1} {n k : Int} : smB (lkB bt n k) ↔ k < n ∧ smB (bt k) := by
  unfold lkB
  split
  · next z => exact ⟨fun y => ⟨z, y⟩, fun y => y.2⟩
  · next z => exact ⟨fun y => by unfold smB at y; omega, fun y => absurd y.1 z⟩
theorem lkB_dg {bt : F1} {n k : Int} : dgB (lkB bt n k) ↔ k < n ∧ dgB (bt k) := by
  unfold lkB
  split
  · next z => exact ⟨fun y => ⟨z, y⟩, fun y => y.2⟩
  · next z => exact ⟨fun y => by unfold dgB at y; omega, fun y => absurd y.1 z⟩
theorem lkB_32 {bt : F1} {n k : Int} : lkB bt n k = 32 ↔ k < n ∧ bt k = 32 := by
  unfold lkB
  split
  · next z => exact ⟨fun y => ⟨z, y⟩, fun y => y.2⟩
  · next z => exact ⟨fun y => by omega, fun y => absurd y.1 z⟩
theorem lkB_r {bt : F1} {n k : Int} (hb : ∀ k, 0 ≤ k → k < n → 0 ≤ bt k ∧ bt k ≤ 255) (hk : 0 ≤ k) : -1 ≤ lkB bt n k ∧ lkB bt n k ≤ 255 := by
  unfold lkB
  split
  · next z => have := hb k hk z; omega
  · omega
set_option maxHeartbeats 4000000 in
theorem c_X12_next {E : ET} {I : MI} {L : ML} {R : MR} {Q : Option AV → MI → ML → MR → Prop} {bt : F1} {n e : Int} (hT : Topo R) (et : I 139 = bt) (en : I 138 3 = n) (hn : 0 ≤ n ∧ n ≤ 900) (hb : ∀ k, 0 ≤ k → k < n → 0 ≤ bt k ∧ bt k ≤ 255) (ee : I 138 5 = e) (he : 0 ≤ e ∧ e ≤ n) (h : ∀ I', NxQ I I' → TkR I' bt n (skE bt n e) → Q none I' L R) : CT E M_X12_next 161 yX12_next [(vr (138))] I L R Q := by
  refine CT_of rfl rfl (fun h => by cases h) (Nat.le_of_ble_eq_true rfl) (fun X => ?_)
  show V X _ z0 0 [some (vr (138)), none, none, none] [] I L R _
  have et1 : ∀ {I2 : MI}, NxQ I I2 → I2 139 = bt := fun z => (z.1 139 (by decide)).trans et
  have en1 : ∀ {I2 : MI}, NxQ I I2 → I2 138 3 = n := fun z => (z.2 3 (by decide)).trans en
  have tok : ∀ (a : Int) (w2 w3 : Option AV), 0 ≤ a → a ≤ n → skE bt n e = a → V X M_X12_next z0 21 [some (vr 138), some (vi a), w2, w3] [] I L R (RT X M_X12_next Q) := by
    intro a w2 w3 a1 a2 a3
    rw [a3] at h
    have q0 : NxQ I (up I 138 4 a) := NxQ.rf.fs (by decide)
    have q1 : NxQ I (up (up (up I 138 4 a) 138 8 0) 138 7 0) := (q0.fs (by decide)).fs (by decide)
    have f4 : up (up (up I 138 4 a) 138 8 0) 138 7 0 138 4 = a := by rw [upn (by decide), upn (by decide), ups]
    have f8 : up (up (up I 138 4 a) 138 8 0) 138 7 0 138 8 = 0 := by rw [upn (by decide), ups]
    have f7 : up (up (up I 138 4 a) 138 8 0) 138 7 0 138 7 = 0 := by rw [ups]
    have lr := lkB_r (n := n) hb a1
    by_cases ha : a < n
    · have hba := hb a a1 ha
      have lk1 : lkB bt n a = bt a := lkB_i ha
      by_cases hs : smB (bt a)
      · have hen : enE bt n a = rnE (fun j => j < n ∧ smB (bt j)) a := by unfold enE; rw [pick_t ha, pick_t hs]
        have htk : tkE bt n a = pick (enE bt n a - a > 8) 1 2 := by unfold tkE; rw [pick_t ha, pick_t hs]
        have loop : ∀ (f : Nat) (k : Int) (I2 : MI) (w3 : Option AV), n - k < (f : Int) → a ≤ k → k ≤ n → (∀ j, a ≤ j → j < k → j < n ∧ smB (bt j)) → NxQ I I2 → I2 138 4 = a → I2 138 8 = k - a → (∀ j, 0 ≤ j → j < k - a → j < 8 → I2 140 j = bt (a + j)) → V X M_X12_next z0 67 [some (vr 138), some (vi k), some (vi (bt a)), w3] [] I2 L R (RT X M_X12_next Q) := by
          intro f
          induction f with
          | zero => intro k I2 w3 h1 h2 h3; omega
          | succ f ih =>
            intro k I2 w3 h1 h2 h3 h5 h6 h7 h8 h9
            have lr2 := lkB_r (n := n) hb (k := k) (by omega)
            have fin : ¬ (k < n ∧ smB (bt k)) → V X M_X12_next z0 117 [some (vr 138), some (vi k), some (vi (bt a)), w3] [] I2 L R (RT X M_X12_next Q) := by
              intro z
              have hk : a < k := by
                rcases Int.lt_trichotomy a k with y | y | y
                · exact y
                · exact absurd (show k < n ∧ smB (bt k) by rw [← y]; exact ⟨ha, hs⟩) z
                · omega
              have hr : IsRun (fun j => j < n ∧ smB (bt j)) a k := ⟨h2, h5, z⟩
              rw [hr.v] at hen
              rw [hen] at htk
              have fields : ∀ t, t = tkE bt n a → TkR (up (up I2 138 5 k) 138 6 t) bt n a := by
                intro t ht
                refine ⟨⟨a1, a2⟩, ?_, ?_, by rw [hen]; omega, by rw [ups, ht], fun z => ?_, fun z => ?_⟩
                · rw [upn (by decide), upn (by decide)]; exact h7
                · rw [upn (by decide), ups, hen]
                · rw [htk] at z
                  rw [hen, upn (by decide), upn (by decide), h8]
                  have k8 : ¬ (k - a > 8) := fun y => by rw [pick_t y] at z; omega
                  refine ⟨rfl, by omega, by omega, fun j j1 j2 => ?_⟩
                  rw [up_ne (by decide), up_ne (by decide)]
                  exact ⟨h9 j j1 j2 (by omega), (h5 (a + j) (by omega) (by omega)).2⟩
                · rw [htk] at z
                  by_cases y : k - a > 8
                  · rw [pick_t y] at z; omega
                  · rw [pick_f y] at z; omega
              refine s_aload_n 118 dX12_next_117 rfl rfl ?_
              refine s_iload_n 119 dX12_next_118 rfl rfl ?_
              refine s_putI 122 dX12_next_119 rfl fl_X12_93 (fun _ => rfl) (fun _ => rfl) (fun _ _ _ _ => rfl) sh_138 (Nat.le_of_ble_eq_true rfl) (by first | omega | exact bI_r _ | exact iI_r _) ?_
              refine s_aload_n 123 dX12_next_122 rfl rfl ?_
              refine s_aload_n 124 dX12_next_123 rfl rfl ?_
              refine s_getI 127 dX12_next_124 rfl fl_X12_103 (fun _ _ _ _ => rfl) sh_138 (Nat.le_of_ble_eq_true rfl) (fun r_124 => ?_)
              rw [upn (by decide), h8]
              refine s_bipush 129 dX12_next_127 rfl (by decide) ?_
              refine s_icmp_le 136 132 dX12_next_129 rfl rfl (by first | omega | exact bI_r _ | exact iI_r _) (by first | omega | exact bI_r _ | exact iI_r _) (fun h_129 => ?_) (fun h_129 => ?_)
              · skip
                refine s_iconst 137 dX12_next_136 rfl ?_
                refine s_putI 140 dX12_next_137 rfl fl_X12_109 (fun _ => rfl) (fun _ => rfl) (fun _ _ _ _ => rfl) sh_138 (Nat.le_of_ble_eq_true rfl) (by first | omega | exact bI_r _ | exact iI_r _) ?_
                refine s_goto 247 dX12_next_140 rfl ?_
                refine s_vret dX12_next_247 rfl rfl ?_
                refine h _ ((h6.fs (by decide)).fs (by decide)) (fields _ ?_)
                rw [htk]; first | exact (pick_t (by omega)).symm | exact (pick_f (by omega)).symm
              refine s_iconst 133 dX12_next_132 rfl ?_
              refine s_goto 137 dX12_next_133 rfl ?_
              refine s_putI 140 dX12_next_137 rfl fl_X12_109 (fun _ => rfl) (fun _ => rfl) (fun _ _ _ _ => rfl) sh_138 (Nat.le_of_ble_eq_true rfl) (by first | omega | exact bI_r _ | exact iI_r _) ?_
              refine s_goto 247 dX12_next_140 rfl ?_
              refine s_vret dX12_next_247 rfl rfl ?_
              refine h _ ((h6.fs (by decide)).fs (by decide)) (fields _ ?_)
              rw [htk]; first | exact (pick_t (by omega)).symm | exact (pick_f (by omega)).symm
            have mid : ∀ I3 : MI, k < n ∧ smB (bt k) → NxQ I I3 → I3 138 4 = a → I3 138 8 = k - a → (∀ j, 0 ≤ j → j < k + 1 - a → j < 8 → I3 140 j = bt (a + j)) → V X M_X12_next z0 101 [some (vr 138), some (vi k), some (vi (bt a)), w3] [] I3 L R (RT X M_X12_next Q) := by
              intro I3 z q6 q7 q8 q9
              refine s_aload_n 102 dX12_next_101 rfl rfl ?_
              refine s_dup 103 dX12_next_102 rfl rfl ?_
              refine s_getI 106 dX12_next_103 rfl fl_X12_103 (fun _ _ _ _ => rfl) sh_138 (Nat.le_of_ble_eq_true rfl) (fun r_103 => ?_)
              rw [q8]
              refine s_iconst 107 dX12_next_106 rfl ?_
              refine s_iadd 108 dX12_next_107 rfl ?_
              refine s_putI 111 dX12_next_108 rfl fl_X12_103 (fun _ => rfl) (fun _ => rfl) (fun _ _ _ _ => rfl) sh_138 (Nat.le_of_ble_eq_true rfl) (by first | omega | exact bI_r _ | exact iI_r _) ?_
              refine s_iinc (ls' := [_, _, _, _]) 114 dX12_next_111 rfl rfl (Nat.le_of_ble_eq_true rfl) rfl rfl ?_
              refine s_goto 67 dX12_next_114 rfl ?_
              refine ih (k + 1) _ _ (by omega) (by omega) (by omega) (fun j j1 j2 => ?_) (q6.fs (by decide)) ?_ ?_ (fun j j1 j2 j3 => ?_)
              · by_cases ej : j = k
                · rw [ej]; exact z
                · exact h5 j j1 (by omega)
              · rw [upn (by decide)]; exact q7
              · rw [ups]; omega
              · rw [up_ne (by decide)]; exact q9 j j1 j2 j3
            have st9 : k < n ∧ smB (bt k) → ∀ j, 0 ≤ j → j < k + 1 - a → j < 8 → up I2 140 (k - a) (lkB bt n k) 140 j = bt (a + j) := by
              intro z j j1 j2 j3
              rw [upd9]
              by_cases ej : j = k - a
              · rw [if_pos ej, ej, lkB_i z.1]; congr 1; omega
              · rw [if_neg ej]; exact h9 j j1 (by omega) j3
            refine s_aload_n 68 dX12_next_67 rfl rfl ?_
            refine s_iload_n 69 dX12_next_68 rfl rfl ?_
            refine s_callV0 (M' := M_X12_look) (as := [_]) 72 dX12_next_69 rfl cw_X12_96 rfl rfl sh_138 rfl (by decide) (Nat.le_of_ble_eq_true rfl) (Nat.le_of_ble_eq_true rfl) (Nat.le_of_ble_eq_true rfl) (Nat.le_of_ble_eq_true rfl) ⟨rfl, rfl, rfl⟩ ?_
            refine c_X12_look hT (et1 h6) (en1 h6) hn (by omega) rfl ?_
            refine s_callS0 (M' := M_X12_isSmall) (as := [_]) 75 dX12_next_72 rfl cw_X12_112 rfl rfl (Nat.le_of_ble_eq_true rfl) (Nat.le_of_ble_eq_true rfl) (Nat.le_of_ble_eq_true rfl) ⟨rfl, rfl, rfl⟩ ?_
            refine c_X12_isSmall (by omega) ?_
            refine s_ifb_eq 117 78 dX12_next_75 rfl rfl (fun h_75 => ?_) (fun h_75 => ?_)
            · skip
              exact fin (fun z => absurd (lkB_sm.mpr z) h_75)
            refine s_aload_n 79 dX12_next_78 rfl rfl ?_
            refine s_getI 82 dX12_next_79 rfl fl_X12_103 (fun _ _ _ _ => rfl) sh_138 (Nat.le_of_ble_eq_true rfl) (fun r_79 => ?_)
            rw [h8]
            refine s_bipush 84 dX12_next_82 rfl (by decide) ?_
            refine s_icmp_ge 101 87 dX12_next_84 rfl rfl (by first | omega | exact bI_r _ | exact iI_r _) (by first | omega | exact bI_r _ | exact iI_r _) (fun h_84 => ?_) (fun h_84 => ?_)
            · skip
              have z := lkB_sm.mp h_75
              first | exact mid _ z h6 h7 h8 (fun j j1 j2 j3 => h9 j j1 (by omega) j3) | exact mid _ z h6.ls ((congrFun (up_ne (by decide)) 4).trans h7) ((congrFun (up_ne (by decide)) 8).trans h8) (st9 z)
            refine s_aload_n 88 dX12_next_87 rfl rfl ?_
            refine s_getR 91 dX12_next_88 rfl fl_X12_17 (fun _ _ _ _ => rfl) (T_X12_letters hT) sh_138 (Nat.le_of_ble_eq_true rfl) ?_
            refine s_aload_n 92 dX12_next_91 rfl rfl ?_
            refine s_getI 95 dX12_next_92 rfl fl_X12_103 (fun _ _ _ _ => rfl) sh_138 (Nat.le_of_ble_eq_true rfl) (fun r_92 => ?_)
            rw [h8]
            refine s_aload_n 96 dX12_next_95 rfl rfl ?_
            refine s_iload_n 97 dX12_next_96 rfl rfl ?_
            refine s_callV0 (M' := M_X12_look) (as := [_]) 100 dX12_next_97 rfl cw_X12_96 rfl rfl sh_138 rfl (by decide) (Nat.le_of_ble_eq_true rfl) (Nat.le_of_ble_eq_true rfl) (Nat.le_of_ble_eq_true rfl) (Nat.le_of_ble_eq_true rfl) ⟨rfl, rfl, rfl⟩ ?_
            refine c_X12_look hT (et1 h6) (en1 h6) hn (by omega) rfl ?_
            refine s_iast 101 dX12_next_100 rfl sh_140 (Nat.le_of_ble_eq_true rfl) (by omega) (by omega) (by first | omega | exact bI_r _ | exact iI_r _) ?_
            have z := lkB_sm.mp h_75
            first | exact mid _ z h6 h7 h8 (fun j j1 j2 j3 => h9 j j1 (by omega) j3) | exact mid _ z h6.ls ((congrFun (up_ne (by decide)) 4).trans h7) ((congrFun (up_ne (by decide)) 8).trans h8) (st9 z)
        refine s_aload_n 22 dX12_next_21 rfl rfl ?_
        refine s_iload_n 23 dX12_next_22 rfl rfl ?_
        refine s_putI 26 dX12_next_23 rfl fl_X12_100 (fun _ => rfl) (fun _ => rfl) (fun _ _ _ _ => rfl) sh_138 (Nat.le_of_ble_eq_true rfl) (by first | omega | exact bI_r _ | exact iI_r _) ?_
        refine s_aload_n 27 dX12_next_26 rfl rfl ?_
        refine s_iload_n 28 dX12_next_27 rfl rfl ?_
        refine s_callV0 (M' := M_X12_look) (as := [_]) 31 dX12_next_28 rfl cw_X12_96 rfl rfl sh_138 rfl (by decide) (Nat.le_of_ble_eq_true rfl) (Nat.le_of_ble_eq_true rfl) (Nat.le_of_ble_eq_true rfl) (Nat.le_of_ble_eq_true rfl) ⟨rfl, rfl, rfl⟩ ?_
        refine c_X12_look hT (et1 q0) (en1 q0) hn (by omega) lk1 ?_
        refine s_istore_n (ls' := [_, _, _, _]) 32 dX12_next_31 rfl (Nat.le_of_ble_eq_true rfl) rfl rfl ?_
        refine s_aload_n 33 dX12_next_32 rfl rfl ?_
        refine s_iconst 34 dX12_next_33 rfl ?_
        refine s_putI 37 dX12_next_34 rfl fl_X12_103 (fun _ => rfl) (fun _ => rfl) (fun _ _ _ _ => rfl) sh_138 (Nat.le_of_ble_eq_true rfl) (by first | omega | exact bI_r _ | exact iI_r _) ?_
        refine s_aload_n 38 dX12_next_37 rfl rfl ?_
        refine s_iconst 39 dX12_next_38 rfl ?_
        refine s_putI 42 dX12_next_39 rfl fl_X12_106 (fun _ => rfl) (fun _ => rfl) (fun _ _ _ _ => rfl) sh_138 (Nat.le_of_ble_eq_true rfl) (by first | omega | exact bI_r _ | exact iI_r _) ?_
        refine s_iload_n 43 dX12_next_42 rfl rfl ?_
        refine s_iconst 44 dX12_next_43 rfl ?_
        refine s_icmp_ne 60 47 dX12_next_44 rfl rfl (by first | omega | exact bI_r _ | exact iI_r _) (by first | omega | exact bI_r _ | exact iI_r _) (fun h_44 => ?_) (fun h_44 => by exfalso; omega)
        refine s_iload_n 61 dX12_next_60 rfl rfl ?_
        refine s_callS0 (M' := M_X12_isSmall) (as := [_]) 64 dX12_next_61 rfl cw_X12_112 rfl rfl (Nat.le_of_ble_eq_true rfl) (Nat.le_of_ble_eq_true rfl) (Nat.le_of_ble_eq_true rfl) ⟨rfl, rfl, rfl⟩ ?_
        refine c_X12_isSmall (by omega) ?_
        refine s_ifb_eq 143 67 dX12_next_64 rfl rfl (fun h_64 => by exfalso; exact absurd hs h_64) (fun h_64 => ?_)
        exact loop (n - a + 1).toNat a _ _ (by omega) (by omega) (by omega) (fun j j1 j2 => by omega) q1 f4 (by rw [f8]; omega) (fun j j1 j2 => by omega)
      · by_cases hg : dgB (bt a)
        · have hen : enE bt n a = rnE (fun j => j < n ∧ dgB (bt j)) a := by unfold enE; rw [pick_t ha, pick_f hs, pick_t hg]
          have htk : tkE bt n a = pick (enE bt n a - a > 3) 1 3 := by unfold tkE; rw [pick_t ha, pick_f hs, pick_t hg]
          have loop : ∀ (f : Nat) (k : Int) (I2 : MI), n - k < (f : Int) → a ≤ k → k ≤ n → (∀ j, a ≤ j → j < k → j < n ∧ dgB (bt j)) → NxQ I I2 → I2 138 4 = a → (k - a ≤ 3 → I2 138 7 = dvF bt a (k - a).toNat) → V X M_X12_next z0 152 [some (vr (138)), some (vi (k)), some (vi (bt a)), some (vi (k - a))] [] (I2) L R (RT X M_X12_next Q) := by
            intro f
            induction f with
            | zero => intro k I2 h1 h2 h3; omega
            | succ f ih =>
              intro k I2 h1 h2 h3 h5 h6 h7 h8
              have lr2 := lkB_r (n := n) hb (k := k) (by omega)
              have fin : ¬ (k < n ∧ dgB (bt k)) → V X M_X12_next z0 197 [some (vr (138)), some (vi (k)), some (vi (bt a)), some (vi (k - a))] [] (I2) L R (RT X M_X12_next Q) := by
                intro z
                have hk : a < k := by
                  rcases Int.lt_trichotomy a k with y | y | y
                  · exact y
                  · exact absurd (show k < n ∧ dgB (bt k) by rw [← y]; exact ⟨ha, hg⟩) z
                  · omega
                have hr : IsRun (fun j => j < n ∧ dgB (bt j)) a k := ⟨h2, h5, z⟩
                rw [hr.v] at hen
                rw [hen] at htk
                have fields : ∀ t, t = tkE bt n a → TkR (up (up I2 138 5 k) 138 6 t) bt n a := by
                  intro t ht
                  refine ⟨⟨a1, a2⟩, ?_, ?_, by rw [hen]; omega, by rw [ups, ht], fun z => ?_, fun z => ?_⟩
                  · rw [upn (by decide), upn (by decide)]; exact h7
                  · rw [upn (by decide), ups, hen]
                  · rw [htk] at z
                    by_cases y : k - a > 3
                    · rw [pick_t y] at z; omega
                    · rw [pick_f y] at z; omega
                  · rw [htk] at z
                    have k8 : ¬ (k - a > 3) := fun y => by rw [pick_t y] at z; omega
                    have hd := dvF_b (bt := bt) (a := a) (m := (k - a).toNat) (fun j j1 j2 => (h5 (a + j) (by omega) (by omega)).2) (by omega)
                    have h10 : (10 : Int) ^ (k - a).toNat ≤ 1000 := by
                      have hc : (k - a).toNat = 0 ∨ (k - a).toNat = 1 ∨ (k - a).toNat = 2 ∨ (k - a).toNat = 3 := by omega
                      rcases hc with y | y | y | y <;> rw [y] <;> decide
                    unfold nuE
                    rw [hen, upn (by decide), upn (by decide), h8 (by omega)]
                    exact ⟨rfl, hd.1, by omega⟩
                refine s_aload_n 198 dX12_next_197 rfl rfl ?_
                refine s_iload_n 199 dX12_next_198 rfl rfl ?_
                refine s_putI 202 dX12_next_199 rfl fl_X12_93 (fun _ => rfl) (fun _ => rfl) (fun _ _ _ _ => rfl) sh_138 (Nat.le_of_ble_eq_true rfl) (by first | omega | exact bI_r _ | exact iI_r _) ?_
                refine s_aload_n 203 dX12_next_202 rfl rfl ?_
                refine s_iload_n 204 dX12_next_203 rfl rfl ?_
                refine s_iconst 205 dX12_next_204 rfl ?_
                refine s_icmp_le 212 208 dX12_next_205 rfl rfl (by first | omega | exact bI_r _ | exact iI_r _) (by first | omega | exact bI_r _ | exact iI_r _) (fun h_205 => ?_) (fun h_205 => ?_)
                · skip
                  refine s_iconst 213 dX12_next_212 rfl ?_
                  refine s_putI 216 dX12_next_213 rfl fl_X12_109 (fun _ => rfl) (fun _ => rfl) (fun _ _ _ _ => rfl) sh_138 (Nat.le_of_ble_eq_true rfl) (by first | omega | exact bI_r _ | exact iI_r _) ?_
                  refine s_goto 247 dX12_next_216 rfl ?_
                  refine s_vret dX12_next_247 rfl rfl ?_
                  refine h _ ((h6.fs (by decide)).fs (by decide)) (fields _ ?_)
                  rw [htk]; first | exact (pick_t (by omega)).symm | exact (pick_f (by omega)).symm
                refine s_iconst 209 dX12_next_208 rfl ?_
                refine s_goto 213 dX12_next_209 rfl ?_
                refine s_putI 216 dX12_next_213 rfl fl_X12_109 (fun _ => rfl) (fun _ => rfl) (fun _ _ _ _ => rfl) sh_138 (Nat.le_of_ble_eq_true rfl) (by first | omega | exact bI_r _ | exact iI_r _) ?_
                refine s_goto 247 dX12_next_216 rfl ?_
                refine s_vret dX12_next_247 rfl rfl ?_
                refine h _ ((h6.fs (by decide)).fs (by decide)) (fields _ ?_)
                rw [htk]; first | exact (pick_t (by omega)).symm | exact (pick_f (by omega)).symm
              have mid : ∀ I3 : MI, k < n ∧ dgB (bt k) → NxQ I I3 → I3 138 4 = a → (k + 1 - a ≤ 3 → I3 138 7 = dvF bt a (k + 1 - a).toNat) → V X M_X12_next z0 188 [some (vr (138)), some (vi (k)), some (vi (bt a)), some (vi (k - a))] [] (I3) L R (RT X M_X12_next Q) := by
                intro I3 z q6 q7 q8
                refine s_iinc (ls' := [_, _, _, _]) 191 dX12_next_188 rfl rfl (Nat.le_of_ble_eq_true rfl) rfl rfl ?_
                refine s_iinc (ls' := [_, _, _, _]) 194 dX12_next_191 rfl rfl (Nat.le_of_ble_eq_true rfl) rfl rfl ?_
                refine s_goto 152 dX12_next_194 rfl ?_
                have := ih (k + 1) I3 (by omega) (by omega) (by omega) (fun j j1 j2 => if ej : j = k then (by rw [ej]; exact z) else h5 j j1 (by omega)) q6 q7 q8
                rw [show k + 1 - a = k - a + 1 by omega] at this; exact this
              have dB : k - a < 3 → 0 ≤ dvF bt a (k - a).toNat ∧ dvF bt a (k - a).toNat ≤ 100 := by
                intro k3
                have hd := dvF_b (bt := bt) (a := a) (m := (k - a).toNat) (fun j j1 j2 => (h5 (a + j) (by omega) (by omega)).2) (by omega)
                have h10 : (10 : Int) ^ (k - a).toNat ≤ 100 := by
                  have hc : (k - a).toNat = 0 ∨ (k - a).toNat = 1 ∨ (k - a).toNat = 2 := by omega
                  rcases hc with y | y | y <;> rw [y] <;> decide
                omega
              refine s_aload_n 153 dX12_next_152 rfl rfl ?_
              refine s_iload_n 154 dX12_next_153 rfl rfl ?_
              refine s_callV0 (M' := M_X12_look) (as := [_]) 157 dX12_next_154 rfl cw_X12_96 rfl rfl sh_138 rfl (by decide) (Nat.le_of_ble_eq_true rfl) (Nat.le_of_ble_eq_true rfl) (Nat.le_of_ble_eq_true rfl) (Nat.le_of_ble_eq_true rfl) ⟨rfl, rfl, rfl⟩ ?_
              refine c_X12_look hT (et1 h6) (en1 h6) hn (by omega) rfl ?_
              refine s_callS0 (M' := M_X12_isDigit) (as := [_]) 160 dX12_next_157 rfl cw_X12_116 rfl rfl (Nat.le_of_ble_eq_true rfl) (Nat.le_of_ble_eq_true rfl) (Nat.le_of_ble_eq_true rfl) ⟨rfl, rfl, rfl⟩ ?_
              refine c_X12_isDigit (by omega) ?_
              refine s_ifb_eq 197 163 dX12_next_160 rfl rfl (fun h_160 => ?_) (fun h_160 => ?_)
              · skip
                exact fin (fun z => absurd (lkB_dg.mpr z) h_160)
              refine s_iload_n 164 dX12_next_163 rfl rfl ?_
              refine s_iconst 165 dX12_next_164 rfl ?_
              refine s_icmp_ge 188 168 dX12_next_165 rfl rfl (by first | omega | exact bI_r _ | exact iI_r _) (by first | omega | exact bI_r _ | exact iI_r _) (fun h_165 => ?_) (fun h_165 => ?_)
              · skip
                have z := lkB_dg.mp h_160
                first | exact mid _ z h6 h7 (fun y => by omega) | exact mid _ z (h6.fs (by decide)) ((upn (by decide)).trans h7) (fun y => by rw [ups, dvF_s (by omega), lkB_i z.1])
              refine s_aload_n 169 dX12_next_168 rfl rfl ?_
              refine s_bipush 171 dX12_next_169 rfl (by decide) ?_
              refine s_aload_n 172 dX12_next_171 rfl rfl ?_
              refine s_getI 175 dX12_next_172 rfl fl_X12_106 (fun _ _ _ _ => rfl) sh_138 (Nat.le_of_ble_eq_true rfl) (fun r_172 => ?_)
              rw [h8 (by omega)]; have dB := dB (by omega)
              refine s_imul 176 dX12_next_175 rfl ?_
              refine s_aload_n 177 dX12_next_176 rfl rfl ?_
              refine s_iload_n 178 dX12_next_177 rfl rfl ?_
              refine s_callV0 (M' := M_X12_look) (as := [_]) 181 dX12_next_178 rfl cw_X12_96 rfl rfl sh_138 rfl (by decide) (Nat.le_of_ble_eq_true rfl) (Nat.le_of_ble_eq_true rfl) (Nat.le_of_ble_eq_true rfl) (Nat.le_of_ble_eq_true rfl) ⟨rfl, rfl, rfl⟩ ?_
              refine c_X12_look hT (et1 h6) (en1 h6) hn (by omega) rfl ?_
              refine s_iadd 182 dX12_next_181 rfl ?_
              refine s_bipush 184 dX12_next_182 rfl (by decide) ?_
              refine s_isub 185 dX12_next_184 rfl ?_
              refine s_putI 188 dX12_next_185 rfl fl_X12_106 (fun _ => rfl) (fun _ => rfl) (fun _ _ _ _ => rfl) sh_138 (Nat.le_of_ble_eq_true rfl) (by first | omega | exact bI_r _ | exact iI_r _) ?_
              have z := lkB_dg.mp h_160
              first | exact mid _ z h6 h7 (fun y => by omega) | exact mid _ z (h6.fs (by decide)) ((upn (by decide)).trans h7) (fun y => by rw [ups, dvF_s (by omega), lkB_i z.1])
          refine s_aload_n 22 dX12_next_21 rfl rfl ?_
          refine s_iload_n 23 dX12_next_22 rfl rfl ?_
          refine s_putI 26 dX12_next_23 rfl fl_X12_100 (fun _ => rfl) (fun _ => rfl) (fun _ _ _ _ => rfl) sh_138 (Nat.le_of_ble_eq_true rfl) (by first | omega | exact bI_r _ | exact iI_r _) ?_
          refine s_aload_n 27 dX12_next_26 rfl rfl ?_
          refine s_iload_n 28 dX12_next_27 rfl rfl ?_
          refine s_callV0 (M' := M_X12_look) (as := [_]) 31 dX12_next_28 rfl cw_X12_96 rfl rfl sh_138 rfl (by decide) (Nat.le_of_ble_eq_true rfl) (Nat.le_of_ble_eq_true rfl) (Nat.le_of_ble_eq_true rfl) (Nat.le_of_ble_eq_true rfl) ⟨rfl, rfl, rfl⟩ ?_
          refine c_X12_look hT (et1 q0) (en1 q0) hn (by omega) lk1 ?_
          refine s_istore_n (ls' := [_, _, _, _]) 32 dX12_next_31 rfl (Nat.le_of_ble_eq_true rfl) rfl rfl ?_
          refine s_aload_n 33 dX12_next_32 rfl rfl ?_
          refine s_iconst 34 dX12_next_33 rfl ?_
          refine s_putI 37 dX12_next_34 rfl fl_X12_103 (fun _ => rfl) (fun _ => rfl) (fun _ _ _ _ => rfl) sh_138 (Nat.le_of_ble_eq_true rfl) (by first | omega | exact bI_r _ | exact iI_r _) ?_
          refine s_aload_n 38 dX12_next_37 rfl rfl ?_
          refine s_iconst 39 dX12_next_38 rfl ?_
          refine s_putI 42 dX12_next_39 rfl fl_X12_106 (fun _ => rfl) (fun _ => rfl) (fun _ _ _ _ => rfl) sh_138 (Nat.le_of_ble_eq_true rfl) (by first | omega | exact bI_r _ | exact iI_r _) ?_
          refine s_iload_n 43 dX12_next_42 rfl rfl ?_
          refine s_iconst 44 dX12_next_43 rfl ?_
          refine s_icmp_ne 60 47 dX12_next_44 rfl rfl (by first | omega | exact bI_r _ | exact iI_r _) (by first | omega | exact bI_r _ | exact iI_r _) (fun h_44 => ?_) (fun h_44 => by exfalso; omega)
          refine s_iload_n 61 dX12_next_60 rfl rfl ?_
          refine s_callS0 (M' := M_X12_isSmall) (as := [_]) 64 dX12_next_61 rfl cw_X12_112 rfl rfl (Nat.le_of_ble_eq_true rfl) (Nat.le_of_ble_eq_true rfl) (Nat.le_of_ble_eq_true rfl) ⟨rfl, rfl, rfl⟩ ?_
          refine c_X12_isSmall (by omega) ?_
          refine s_ifb_eq 143 67 dX12_next_64 rfl rfl (fun h_64 => ?_) (fun h_64 => by exfalso; exact absurd h_64 hs)
          refine s_iload_n 144 dX12_next_143 rfl rfl ?_
          refine s_callS0 (M' := M_X12_isDigit) (as := [_]) 147 dX12_next_144 rfl cw_X12_116 rfl rfl (Nat.le_of_ble_eq_true rfl) (Nat.le_of_ble_eq_true rfl) (Nat.le_of_ble_eq_true rfl) ⟨rfl, rfl, rfl⟩ ?_
          refine c_X12_isDigit (by omega) ?_
          refine s_ifb_eq 219 150 dX12_next_147 rfl rfl (fun h_147 => by exfalso; exact absurd hg h_147) (fun h_147 => ?_)
          refine s_iconst 151 dX12_next_150 rfl ?_
          refine s_istore_n (ls' := [_, _, _, _]) 152 dX12_next_151 rfl (Nat.le_of_ble_eq_true rfl) rfl rfl ?_
          have := loop (n - a + 1).toNat a _ (by omega) (by omega) (by omega) (fun j j1 j2 => by omega) q1 f4 (fun _ => by rw [f7, Int.sub_self]; rfl)
          rw [Int.sub_self] at this; exact this
        · have hen : enE bt n a = a + 1 := by unfold enE; rw [pick_t ha, pick_f hs, pick_f hg]
          have htk : tkE bt n a = pick (bt a = 59 ∨ bt a = 44) (bt a) 1 := by unfold tkE; rw [pick_t ha, pick_f hs, pick_f hg]
          have t23 : tkE bt n a ≠ 2 ∧ tkE bt n a ≠ 3 := by
            rw [htk]
            by_cases y : bt a = 59 ∨ bt a = 44
            · rw [pick_t y]; omega
            · rw [pick_f y]; omega
          have fields : ∀ (I2 : MI) t, I2 138 4 = a → t = tkE bt n a → TkR (up (up I2 138 5 (a + 1)) 138 6 t) bt n a := by
            intro I2 t h4 ht
            refine ⟨⟨a1, a2⟩, ?_, ?_, by rw [hen]; omega, by rw [ups, ht], fun z => absurd z t23.1, fun z => absurd z t23.2⟩
            · rw [upn (by decide), upn (by decide)]; exact h4
            · rw [upn (by decide), ups, hen]
          refine s_aload_n 22 dX12_next_21 rfl rfl ?_
          refine s_iload_n 23 dX12_next_22 rfl rfl ?_
          refine s_putI 26 dX12_next_23 rfl fl_X12_100 (fun _ => rfl) (fun _ => rfl) (fun _ _ _ _ => rfl) sh_138 (Nat.le_of_ble_eq_true rfl) (by first | omega | exact bI_r _ | exact iI_r _) ?_
          refine s_aload_n 27 dX12_next_26 rfl rfl ?_
          refine s_iload_n 28 dX12_next_27 rfl rfl ?_
          refine s_callV0 (M' := M_X12_look) (as := [_]) 31 dX12_next_28 rfl cw_X12_96 rfl rfl sh_138 rfl (by decide) (Nat.le_of_ble_eq_true rfl) (Nat.le_of_ble_eq_true rfl) (Nat.le_of_ble_eq_true rfl) (Nat.le_of_ble_eq_true rfl) ⟨rfl, rfl, rfl⟩ ?_
          refine c_X12_look hT (et1 q0) (en1 q0) hn (by omega) lk1 ?_
          refine s_istore_n (ls' := [_, _, _, _]) 32 dX12_next_31 rfl (Nat.le_of_ble_eq_true rfl) rfl rfl ?_
          refine s_aload_n 33 dX12_next_32 rfl rfl ?_
          refine s_iconst 34 dX12_next_33 rfl ?_
          refine s_putI 37 dX12_next_34 rfl fl_X12_103 (fun _ => rfl) (fun _ => rfl) (fun _ _ _ _ => rfl) sh_138 (Nat.le_of_ble_eq_true rfl) (by first | omega | exact bI_r _ | exact iI_r _) ?_
          refine s_aload_n 38 dX12_next_37 rfl rfl ?_
          refine s_iconst 39 dX12_next_38 rfl ?_
          refine s_putI 42 dX12_next_39 rfl fl_X12_106 (fun _ => rfl) (fun _ => rfl) (fun _ _ _ _ => rfl) sh_138 (Nat.le_of_ble_eq_true rfl) (by first | omega | exact bI_r _ | exact iI_r _) ?_
          refine s_iload_n 43 dX12_next_42 rfl rfl ?_
          refine s_iconst 44 dX12_next_43 rfl ?_
          refine s_icmp_ne 60 47 dX12_next_44 rfl rfl (by first | omega | exact bI_r _ | exact iI_r _) (by first | omega | exact bI_r _ | exact iI_r _) (fun h_44 => ?_) (fun h_44 => by exfalso; omega)
          refine s_iload_n 61 dX12_next_60 rfl rfl ?_
          refine s_callS0 (M' := M_X12_isSmall) (as := [_]) 64 dX12_next_61 rfl cw_X12_112 rfl rfl (Nat.le_of_ble_eq_true rfl) (Nat.le_of_ble_eq_true rfl) (Nat.le_of_ble_eq_true rfl) ⟨rfl, rfl, rfl⟩ ?_
          refine c_X12_isSmall (by omega) ?_
          refine s_ifb_eq 143 67 dX12_next_64 rfl rfl (fun h_64 => ?_) (fun h_64 => by exfalso; exact absurd h_64 hs)
          refine s_iload_n 144 dX12_next_143 rfl rfl ?_
          refine s_callS0 (M' := M_X12_isDigit) (as := [_]) 147 dX12_next_144 rfl cw_X12_116 rfl rfl (Nat.le_of_ble_eq_true rfl) (Nat.le_of_ble_eq_true rfl) (Nat.le_of_ble_eq_true rfl) ⟨rfl, rfl, rfl⟩ ?_
          refine c_X12_isDigit (by omega) ?_
          refine s_ifb_eq 219 150 dX12_next_147 rfl rfl (fun h_147 => ?_) (fun h_147 => by exfalso; exact absurd h_147 hg)
          refine s_aload_n 220 dX12_next_219 rfl rfl ?_
          refine s_iload_n 221 dX12_next_220 rfl rfl ?_
          refine s_iconst 222 dX12_next_221 rfl ?_
          refine s_iadd 223 dX12_next_222 rfl ?_
          refine s_putI 226 dX12_next_223 rfl fl_X12_93 (fun _ => rfl) (fun _ => rfl) (fun _ _ _ _ => rfl) sh_138 (Nat.le_of_ble_eq_true rfl) (by first | omega | exact bI_r _ | exact iI_r _) ?_
          refine s_aload_n 227 dX12_next_226 rfl rfl ?_
          refine s_iload_n 228 dX12_next_227 rfl rfl ?_
          refine s_bipush 230 dX12_next_228 rfl (by decide) ?_
          refine s_icmp_eq 239 233 dX12_next_230 rfl rfl (by first | omega | exact bI_r _ | exact iI_r _) (by first | omega | exact bI_r _ | exact iI_r _) (fun h_230 => ?_) (fun h_230 => ?_)
          · skip
            refine s_iload_n 240 dX12_next_239 rfl rfl ?_
            refine s_goto 244 dX12_next_240 rfl ?_
            refine s_putI 247 dX12_next_244 rfl fl_X12_109 (fun _ => rfl) (fun _ => rfl) (fun _ _ _ _ => rfl) sh_138 (Nat.le_of_ble_eq_true rfl) (by first | omega | exact bI_r _ | exact iI_r _) ?_
            refine s_vret dX12_next_247 rfl rfl ?_
            refine h _ ((q1.fs (by decide)).fs (by decide)) (fields _ _ f4 ?_)
            rw [htk]; first | exact (pick_t (by omega)).symm | exact (pick_f (by omega)).symm
          refine s_iload_n 234 dX12_next_233 rfl rfl ?_
          refine s_bipush 236 dX12_next_234 rfl (by decide) ?_
          refine s_icmp_ne 243 239 dX12_next_236 rfl rfl (by first | omega | exact bI_r _ | exact iI_r _) (by first | omega | exact bI_r _ | exact iI_r _) (fun h_236 => ?_) (fun h_236 => ?_)
          · skip
            refine s_iconst 244 dX12_next_243 rfl ?_
            refine s_putI 247 dX12_next_244 rfl fl_X12_109 (fun _ => rfl) (fun _ => rfl) (fun _ _ _ _ => rfl) sh_138 (Nat.le_of_ble_eq_true rfl) (by first | omega | exact bI_r _ | exact iI_r _) ?_
            refine s_vret dX12_next_247 rfl rfl ?_
            refine h _ ((q1.fs (by decide)).fs (by decide)) (fields _ _ f4 ?_)
            rw [htk]; first | exact (pick_t (by omega)).symm | exact (pick_f (by omega)).symm
          refine s_iload_n 240 dX12_next_239 rfl rfl ?_
          refine s_goto 244 dX12_next_240 rfl ?_
          refine s_putI 247 dX12_next_244 rfl fl_X12_109 (fun _ => rfl) (fun _ => rfl) (fun _ _ _ _ => rfl) sh_138 (Nat.le_of_ble_eq_true rfl) (by first | omega | exact bI_r _ | exact iI_r _) ?_
          refine s_vret dX12_next_247 rfl rfl ?_
          refine h _ ((q1.fs (by decide)).fs (by decide)) (fields _ _ f4 ?_)
          rw [htk]; first | exact (pick_t (by omega)).symm | exact (pick_f (by omega)).symm
    · have hen : enE bt n a = a := by unfold enE; rw [pick_f ha]
      have htk : tkE bt n a = 0 := by unfold tkE; rw [pick_f ha]
      have lk1 : lkB bt n a = -1 := lkB_o ha
      refine s_aload_n 22 dX12_next_21 rfl rfl ?_
      refine s_iload_n 23 dX12_next_22 rfl rfl ?_
      refine s_putI 26 dX12_next_23 rfl fl_X12_100 (fun _ => rfl) (fun _ => rfl) (fun _ _ _ _ => rfl) sh_138 (Nat.le_of_ble_eq_true rfl) (by first | omega | exact bI_r _ | exact iI_r _) ?_
      refine s_aload_n 27 dX12_next_26 rfl rfl ?_
      refine s_iload_n 28 dX12_next_27 rfl rfl ?_
      refine s_callV0 (M' := M_X12_look) (as := [_]) 31 dX12_next_28 rfl cw_X12_96 rfl rfl sh_138 rfl (by decide) (Nat.le_of_ble_eq_true rfl) (Nat.le_of_ble_eq_true rfl) (Nat.le_of_ble_eq_true rfl) (Nat.le_of_ble_eq_true rfl) ⟨rfl, rfl, rfl⟩ ?_
      refine c_X12_look hT (et1 q0) (en1 q0) hn (by omega) lk1 ?_
      refine s_istore_n (ls' := [_, _, _, _]) 32 dX12_next_31 rfl (Nat.le_of_ble_eq_true rfl) rfl rfl ?_
      refine s_aload_n 33 dX12_next_32 rfl rfl ?_
      refine s_iconst 34 dX12_next_33 rfl ?_
      refine s_putI 37 dX12_next_34 rfl fl_X12_103 (fun _ => rfl) (fun _ => rfl) (fun _ _ _ _ => rfl) sh_138 (Nat.le_of_ble_eq_true rfl) (by first | omega | exact bI_r _ | exact iI_r _) ?_
      refine s_aload_n 38 dX12_next_37 rfl rfl ?_
      refine s_iconst 39 dX12_next_38 rfl ?_
      refine s_putI 42 dX12_next_39 rfl fl_X12_106 (fun _ => rfl) (fun _ => rfl) (fun _ _ _ _ => rfl) sh_138 (Nat.le_of_ble_eq_true rfl) (by first | omega | exact bI_r _ | exact iI_r _) ?_
      refine s_iload_n 43 dX12_next_42 rfl rfl ?_
      refine s_iconst 44 dX12_next_43 rfl ?_
      refine s_icmp_ne 60 47 dX12_next_44 rfl rfl (by first | omega | exact bI_r _ | exact iI_r _) (by first | omega | exact bI_r _ | exact iI_r _) (fun h_44 => by exfalso; omega) (fun h_44 => ?_)
      refine s_aload_n 48 dX12_next_47 rfl rfl ?_
      refine s_iconst 49 dX12_next_48 rfl ?_
      refine s_putI 52 dX12_next_49 rfl fl_X12_109 (fun _ => rfl) (fun _ => rfl) (fun _ _ _ _ => rfl) sh_138 (Nat.le_of_ble_eq_true rfl) (by first | omega | exact bI_r _ | exact iI_r _) ?_
      refine s_aload_n 53 dX12_next_52 rfl rfl ?_
      refine s_iload_n 54 dX12_next_53 rfl rfl ?_
      refine s_putI 57 dX12_next_54 rfl fl_X12_93 (fun _ => rfl) (fun _ => rfl) (fun _ _ _ _ => rfl) sh_138 (Nat.le_of_ble_eq_true rfl) (by first | omega | exact bI_r _ | exact iI_r _) ?_
      refine s_goto 247 dX12_next_57 rfl ?_
      refine s_vret dX12_next_247 rfl rfl ?_
      refine h _ ((q1.fs (by decide)).fs (by decide)) ⟨⟨a1, a2⟩, ?_, ?_, by rw [hen]; omega, ?_, fun z => by omega, fun z => by omega⟩
      · rw [upn (by decide), upn (by decide)]; exact f4
      · rw [ups, hen]
      · rw [upn (by decide), ups, htk]
  have skip : ∀ (f : Nat) (k : Int) (w2 w3 : Option AV), n - k < (f : Int) → e ≤ k → k ≤ n → (∀ j, e ≤ j → j < k → j < n ∧ bt j = 32) → V X M_X12_next z0 5 [some (vr 138), some (vi k), w2, w3] [] I L R (RT X M_X12_next Q) := by
    intro f
    induction f with
    | zero => intro k w2 w3 h1 h2 h3; omega
    | succ f ih =>
      intro k w2 w3 h1 h2 h3 h4
      have lr2 := lkB_r (n := n) hb (k := k) (by omega)
      refine s_aload_n 6 dX12_next_5 rfl rfl ?_
      refine s_iload_n 7 dX12_next_6 rfl rfl ?_
      refine s_callV0 (M' := M_X12_look) (as := [_]) 10 dX12_next_7 rfl cw_X12_96 rfl rfl sh_138 rfl (by decide) (Nat.le_of_ble_eq_true rfl) (Nat.le_of_ble_eq_true rfl) (Nat.le_of_ble_eq_true rfl) (Nat.le_of_ble_eq_true rfl) ⟨rfl, rfl, rfl⟩ ?_
      refine c_X12_look hT et en hn (by omega) rfl ?_
      refine s_bipush 12 dX12_next_10 rfl (by decide) ?_
      refine s_icmp_ne 21 15 dX12_next_12 rfl rfl (by first | omega | exact bI_r _ | exact iI_r _) (by first | omega | exact bI_r _ | exact iI_r _) (fun h_12 => ?_) (fun h_12 => ?_)
      · skip
        exact tok k _ _ (by omega) (by omega) (IsRun.v ⟨h2, h4, fun z => absurd (lkB_32.mpr z) (by assumption)⟩)
      refine s_iinc (ls' := [_, _, _, _]) 18 dX12_next_15 rfl rfl (Nat.le_of_ble_eq_true rfl) rfl rfl ?_
      refine s_goto 5 dX12_next_18 rfl ?_
      have z := lkB_32.mp (Classical.byContradiction (fun y => y (by omega)) : lkB bt n k = 32)
      exact ih (k + 1) _ _ (by omega) (by omega) (by omega) (fun j j1 j2 => if ej : j = k then (by rw [ej]; exact z) else h4 j j1 (by omega))
  refine s_aload_n 1 dX12_next_0 rfl rfl ?_
  refine s_getI 4 dX12_next_1 rfl fl_X12_93 (fun _ _ _ _ => rfl) sh_138 (Nat.le_of_ble_eq_true rfl) (fun r_1 => ?_)
  rw [ee]
  refine s_istore_n (ls' := [_, _, _, _]) 5 dX12_next_4 rfl (Nat.le_of_ble_eq_true rfl) rfl rfl ?_
  exact skip (n - e + 1).toNat e _ _ (by omega) (by omega) (by omega) (fun j j1 j2 => by omega)
