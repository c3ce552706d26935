/-! times of an ORDER; the row in time -/
def tmF (r : F1) (g : Int) (sc : F1) : Nat → Int
  | 0 => 0
  | i + 1 => tmF r g sc i + (r (44 + sc i) + g)
def tmI (r : F1) (g : Int) (sc : F1) (i : Int) : Int := tmF r g sc i.toNat
theorem tmI_0 {r : F1} {g : Int} {sc : F1} : tmI r g sc 0 = 0 := rfl
theorem tmI_s {r : F1} {g : Int} {sc : F1} {i : Int} (h : 0 ≤ i) : tmI r g sc (i + 1) = tmI r g sc i + (r (44 + sc i) + g) := by
  unfold tmI
  rw [show (i + 1).toNat = i.toNat + 1 by omega]
  show tmF r g sc i.toNat + (r (44 + sc (i.toNat : Int)) + g) = _
  rw [show ((i.toNat : Nat) : Int) = i by omega]
theorem tmF_b {r : F1} {g : Int} {sc : F1} (hr : WFr r) (hp : Perm (r 5) sc) (hg : 0 ≤ g ∧ g ≤ 99) : ∀ n : Nat, (n : Int) ≤ r 5 → 0 ≤ tmF r g sc n ∧ tmF r g sc n ≤ 599 * n
  | 0, _ => by simp [tmF]
  | n + 1, h => by
    have h1 := tmF_b hr hp hg n (by omega)
    have e0 := hr.1
    have h2 := hp.1 n (by omega) (by omega)
    have h3 := hr.2.2.1 (sc n) (by omega) (by omega)
    unfold tmF
    omega
theorem tmI_b {r : F1} {g : Int} {sc : F1} (hr : WFr r) (hp : Perm (r 5) sc) (hg : 0 ≤ g ∧ g ≤ 99) {i : Int} (h : 0 ≤ i ∧ i ≤ r 5) : 0 ≤ tmI r g sc i ∧ tmI r g sc i ≤ 599 * i := by
  have := tmF_b hr hp hg i.toNat (by omega)
  unfold tmI
  omega
/-- the place of a scene in a row -/
def posF (sc : F1) (s : Int) : Int := if sc 0 = s then 0 else if sc 1 = s then 1 else if sc 2 = s then 2 else if sc 3 = s then 3 else 4
theorem posF_of {n : Int} {sc : F1} (hp : Perm n sc) (hn : n ≤ 5) {i : Int} (h : 0 ≤ i ∧ i < n) : posF sc (sc i) = i := by
  have hc : i = 0 ∨ i = 1 ∨ i = 2 ∨ i = 3 ∨ i = 4 := by omega
  have inj : ∀ j, 0 ≤ j → j < n → sc j = sc i → j = i := fun j h1 h2 h3 => hp.2.1 j i h1 h2 h.1 h.2 h3
  unfold posF
  rcases hc with rfl | rfl | rfl | rfl | rfl
  · simp
  · rw [if_neg (fun e => by have := inj 0 (by omega) (by omega) e; omega), if_pos rfl]
  · rw [if_neg (fun e => by have := inj 0 (by omega) (by omega) e; omega), if_neg (fun e => by have := inj 1 (by omega) (by omega) e; omega), if_pos rfl]
  · rw [if_neg (fun e => by have := inj 0 (by omega) (by omega) e; omega), if_neg (fun e => by have := inj 1 (by omega) (by omega) e; omega), if_neg (fun e => by have := inj 2 (by omega) (by omega) e; omega), if_pos rfl]
  · rw [if_neg (fun e => by have := inj 0 (by omega) (by omega) e; omega), if_neg (fun e => by have := inj 1 (by omega) (by omega) e; omega), if_neg (fun e => by have := inj 2 (by omega) (by omega) e; omega), if_neg (fun e => by have := inj 3 (by omega) (by omega) e; omega)]
theorem posF_at {n : Int} {sc : F1} (hp : Perm n sc) (hn : n ≤ 5) {s : Int} (h : 0 ≤ s ∧ s < n) : 0 ≤ posF sc s ∧ posF sc s < n ∧ sc (posF sc s) = s := by
  obtain ⟨i, h1, h2, h3⟩ := hp.2.2 s h.1 h.2
  have e := posF_of hp hn ⟨h1, h2⟩
  rw [h3] at e
  rw [e]
  exact ⟨h1, h2, h3⟩
/-- when a scene begins; an appearance begins, ends -/
def opF (r : F1) (g : Int) (sc : F1) (s : Int) : Int := tmI r g sc (posF sc s)
def bgF (r : F1) (g : Int) (sc : F1) (k : Int) : Int := opF r g sc (r (54 + 7 * k + 1)) + r (54 + 7 * k + 2)
def clF (r : F1) (g : Int) (sc : F1) (k : Int) : Int := opF r g sc (r (54 + 7 * k + 1)) + r (54 + 7 * k + 3)
theorem opF_b {r : F1} {g : Int} {sc : F1} (hr : WFr r) (hp : Perm (r 5) sc) (hg : 0 ≤ g ∧ g ≤ 99) {s : Int} (h : 0 ≤ s ∧ s < r 5) : 0 ≤ opF r g sc s ∧ opF r g sc s ≤ 2995 := by
  have e0 := hr.1
  have h1 := posF_at hp (by omega) h
  have h2 := tmI_b hr hp hg (i := posF sc s) ⟨h1.1, by omega⟩
  unfold opF
  omega
theorem bc_b {r : F1} {g : Int} {sc : F1} (hr : WFr r) (hp : Perm (r 5) sc) (hg : 0 ≤ g ∧ g ≤ 99) {k : Int} (h : 0 ≤ k ∧ k < r 7) : 0 ≤ bgF r g sc k ∧ bgF r g sc k < clF r g sc k ∧ clF r g sc k ≤ 3495 := by
  have e0 := hr.1
  have e1 := hr.2.2.2.1 k h.1 h.2
  have e2 := hr.2.2.1 (r (54 + 7 * k + 1)) (by omega) (by omega)
  have e3 := opF_b hr hp hg (s := r (54 + 7 * k + 1)) (by omega)
  unfold bgF clF
  omega
/-- insertion from behind, of k into the first K places -/
def ipF (b a : F1) (k : Int) : Nat → Nat
  | 0 => 0
  | i + 1 => if b (a i) > b k then ipF b a k i else i + 1
theorem ipF_le (b a : F1) (k : Int) : ∀ i, ipF b a k i ≤ i
  | 0 => Nat.le_refl _
  | i + 1 => by
    unfold ipF
    split
    · exact Nat.le_succ_of_le (ipF_le b a k i)
    · exact Nat.le_refl _
def inF (b a : F1) (k : Int) (K : Nat) : F1 := fun j => if j < (ipF b a k K : Nat) then a j else if j = (ipF b a k K : Nat) then k else if j ≤ K then a (j - 1) else a j
def srF (b : F1) : Nat → F1
  | 0 => fun _ => 0
  | K + 1 => inF b (srF b K) K K
theorem ipF_c {b a a' : F1} {k : Int} : ∀ {K : Nat} (_ : ∀ j : Int, 0 ≤ j → j < K → a j = a' j), ipF b a k K = ipF b a' k K
  | 0, _ => rfl
  | K + 1, h => by
    unfold ipF
    rw [h K (by omega) (by omega), ipF_c (K := K) (fun j h1 h2 => h j h1 (by omega))]
theorem inF_c {b a a' : F1} {k : Int} {K : Nat} (h : ∀ j : Int, 0 ≤ j → j < K → a j = a' j) {j : Int} (hj : 0 ≤ j ∧ j ≤ K) : inF b a k K j = inF b a' k K j := by
  have hl := ipF_le b a' k K
  unfold inF
  rw [ipF_c h]
  split
  · exact h j hj.1 (by omega)
  · split
    · rfl
    · split
      · exact h (j - 1) (by omega) (by omega)
      · omega
/-- every number once -/
theorem srF_in (b : F1) : ∀ (K : Nat), Perm K (srF b K)
  | 0 => ⟨fun i h1 h2 => by omega, fun i j h1 h2 => by omega, fun s h1 h2 => by omega⟩
  | K + 1 => by
    obtain ⟨p1, p2, p3⟩ := srF_in b K
    have hl := ipF_le b (srF b K) K K
    have hv : ∀ j : Int, srF b (K + 1) j = if j < (ipF b (srF b K) K K : Nat) then srF b K j else if j = (ipF b (srF b K) K K : Nat) then (K : Int) else if j ≤ K then srF b K (j - 1) else srF b K j := fun j => rfl
    generalize ipF b (srF b K) K K = p at hl hv
    refine ⟨fun i h1 h2 => ?_, fun i j h1 h2 h3 h4 h5 => ?_, fun s h1 h2 => ?_⟩
    · rw [hv]
      split
      · have := p1 i h1 (by omega); omega
      · split
        · omega
        · rw [if_pos (by omega)]
          have := p1 (i - 1) (by omega) (by omega); omega
    · rw [hv, hv] at h5
      by_cases a1 : i < p
      · rw [if_pos a1] at h5
        have q1 := p1 i h1 (by omega)
        by_cases b1 : j < p
        · rw [if_pos b1] at h5
          exact p2 i j h1 (by omega) h3 (by omega) h5
        · rw [if_neg b1] at h5
          by_cases b2 : j = p
          · rw [if_pos b2] at h5; omega
          · rw [if_neg b2, if_pos (by omega)] at h5
            have := p2 i (j - 1) h1 (by omega) (by omega) (by omega) h5; omega
      · rw [if_neg a1] at h5
        by_cases a2 : i = p
        · rw [if_pos a2] at h5
          by_cases b1 : j < p
          · rw [if_pos b1] at h5
            have := p1 j h3 (by omega); omega
          · rw [if_neg b1] at h5
            by_cases b2 : j = p
            · omega
            · rw [if_neg b2, if_pos (by omega)] at h5
              have := p1 (j - 1) (by omega) (by omega); omega
        · rw [if_neg a2, if_pos (by omega)] at h5
          have q1 := p1 (i - 1) (by omega) (by omega)
          by_cases b1 : j < p
          · rw [if_pos b1] at h5
            have := p2 (i - 1) j (by omega) (by omega) h3 (by omega) h5; omega
          · rw [if_neg b1] at h5
            by_cases b2 : j = p
            · rw [if_pos b2] at h5; omega
            · rw [if_neg b2, if_pos (by omega)] at h5
              have := p2 (i - 1) (j - 1) (by omega) (by omega) (by omega) (by omega) h5; omega
    · by_cases e : s = K
      · exact ⟨p, by omega, by omega, by rw [hv, if_neg (by omega), if_pos rfl, e]⟩
      · obtain ⟨i, q1, q2, q3⟩ := p3 s h1 (by omega)
        by_cases hi : i < p
        · exact ⟨i, q1, by omega, by rw [hv, if_pos hi, q3]⟩
        · exact ⟨i + 1, by omega, by omega, by rw [hv, if_neg (by omega), if_neg (by omega), if_pos (by omega), show i + 1 - 1 = i by omega, q3]⟩
/-- the row in time -/
def sqF (r : F1) (g : Int) (sc : F1) : F1 := srF (bgF r g sc) (r 7).toNat
/-- what layTime leaves -/
def Laid (r : F1) (g : Int) (sc : F1) (I I' : MI) : Prop := Eqo [149, 150, 151, 152] I I' ∧ (∀ s, 0 ≤ s → s < r 5 → I' 149 s = opF r g sc s) ∧ (∀ k, 0 ≤ k → k < r 7 → I' 150 k = bgF r g sc k ∧ I' 151 k = clF r g sc k) ∧
  ∀ i, 0 ≤ i → i < r 7 → I' 152 i = sqF r g sc i
set_option maxHeartbeats 4000000 in
theorem c_X12_layTime {E : ET} {I : MI} {L : ML} {R : MR} {Q : Option AV → MI → ML → MR → Prop} {r sc : F1} {g : Int} {c nc : Nat} (hT : Topo R) (e1 : I 141 = r) (hr : WFr r) (eg : r 2 = g) (hcs : sh c = (20, nc)) (hnc : 5 ≤ nc ∧ nc ≤ 13) (hc : c < 161) (hcd : c ∉ [149, 150, 151, 152]) (esc : I c = sc) (hp : Perm (r 5) sc) (h : ∀ I', Laid r g sc I I' → Q none I' L R) : CT E M_X12_layTime 161 yX12_layTime [(vr (138)), (vr (c))] I L R Q := by
  refine CT_of rfl rfl (fun h => by cases h) (Nat.le_of_ble_eq_true rfl) (fun X => ?_)
  show V X _ z0 0 [some (vr (138)), some (vr (c)), none, none, none] [] I L R _
  have e0 := hr.1
  have hg : 0 ≤ g ∧ g ≤ 99 := by omega
  -- the appearances
  have loop2 : ∀ (f : Nat) (k t : Int) (I1 : MI), r 7 - k < (f : Int) → 0 ≤ k → k ≤ r 7 → Eqo [149, 150, 151, 152] I I1 → (∀ s, 0 ≤ s → s < r 5 → I1 149 s = opF r g sc s) →
      (∀ j, 0 ≤ j → j < k → I1 150 j = bgF r g sc j ∧ I1 151 j = clF r g sc j) → (∀ i, 0 ≤ i → i < k → I1 152 i = srF (bgF r g sc) k.toNat i) → ∀ w : Option AV, V X M_X12_layTime z0 52 [some (vr 138), some (vr c), some (vi t), some (vi k), w] [] I1 L R (RT X M_X12_layTime Q) := by
    intro f
    induction f with
    | zero => intro k t I1 h1 h2 h3; omega
    | succ f ih =>
      intro k t I1 h1 h2 h3 h4 h5 h6 h7 w
      have er : I1 141 = r := (h4 141 (by decide)).trans e1
      refine s_iload_n 53 dX12_layTime_52 rfl rfl ?_
      refine s_aload_n 54 dX12_layTime_53 rfl rfl ?_
      refine s_getR 57 dX12_layTime_54 rfl fl_X12_20 (fun _ _ _ _ => rfl) (T_X12_r hT) sh_138 (Nat.le_of_ble_eq_true rfl) ?_
      refine s_bipush 59 dX12_layTime_57 rfl (by decide) ?_
      refine s_iald 60 dX12_layTime_59 rfl sh_141 (Nat.le_of_ble_eq_true rfl) (by omega) (by omega) (fun r_59 => ?_)
      rw [er] at r_59 ⊢
      refine s_icmp_ge 178 63 dX12_layTime_60 rfl rfl (by first | omega | exact bI_r _ | exact iI_r _) (by first | omega | exact bI_r _ | exact iI_r _) (fun h_60 => ?_) (fun h_60 => ?_)
      · skip
        have ek : k = r 7 := by omega
        subst ek
        refine s_vret dX12_layTime_178 rfl rfl ?_
        exact h I1 ⟨h4, h5, h6, h7⟩
      skip
      -- one more
      have ek := hr.2.2.2.1 k (by omega) (by omega)
      have eb := bc_b hr hp hg (k := k) ⟨h2, by omega⟩
      have eo := opF_b hr hp hg (s := r (54 + 7 * k + 1)) (by omega)
      have es := hr.2.2.1 (r (54 + 7 * k + 1)) (by omega) (by omega)
      refine s_aload_n 64 dX12_layTime_63 rfl rfl ?_
      refine s_getR 67 dX12_layTime_64 rfl fl_X12_47 (fun _ _ _ _ => rfl) (T_X12_begin hT) sh_138 (Nat.le_of_ble_eq_true rfl) ?_
      refine s_iload_n 68 dX12_layTime_67 rfl rfl ?_
      refine s_aload_n 69 dX12_layTime_68 rfl rfl ?_
      refine s_getR 72 dX12_layTime_69 rfl fl_X12_44 (fun _ _ _ _ => rfl) (T_X12_opens hT) sh_138 (Nat.le_of_ble_eq_true rfl) ?_
      refine s_aload_n 73 dX12_layTime_72 rfl rfl ?_
      refine s_iload_n 74 dX12_layTime_73 rfl rfl ?_
      refine s_iconst 75 dX12_layTime_74 rfl ?_
      refine s_callV0 (M' := M_X12_onOf) (as := [_, _]) 78 dX12_layTime_75 rfl cw_X12_302 rfl rfl sh_138 rfl (by decide) (Nat.le_of_ble_eq_true rfl) (Nat.le_of_ble_eq_true rfl) (Nat.le_of_ble_eq_true rfl) (Nat.le_of_ble_eq_true rfl) ⟨rfl, rfl, rfl⟩ ?_
      refine c_X12_onOf hT er (by omega) (by omega) ?_
      refine s_iald 79 dX12_layTime_78 rfl sh_149 (Nat.le_of_ble_eq_true rfl) (by omega) (by omega) (fun r_78 => ?_)
      rw [h5 _ (by omega) (by omega)] at r_78 ⊢
      refine s_aload_n 80 dX12_layTime_79 rfl rfl ?_
      refine s_iload_n 81 dX12_layTime_80 rfl rfl ?_
      refine s_iconst 82 dX12_layTime_81 rfl ?_
      refine s_callV0 (M' := M_X12_onOf) (as := [_, _]) 85 dX12_layTime_82 rfl cw_X12_302 rfl rfl sh_138 rfl (by decide) (Nat.le_of_ble_eq_true rfl) (Nat.le_of_ble_eq_true rfl) (Nat.le_of_ble_eq_true rfl) (Nat.le_of_ble_eq_true rfl) ⟨rfl, rfl, rfl⟩ ?_
      refine c_X12_onOf hT er (by omega) (by omega) ?_
      refine s_iadd 86 dX12_layTime_85 rfl ?_
      refine s_iast 87 dX12_layTime_86 rfl sh_150 (Nat.le_of_ble_eq_true rfl) (by omega) (by omega) (by first | omega | exact bI_r _ | exact iI_r _) ?_
      change V X M_X12_layTime z0 87 _ [] (up I1 150 k (bgF r g sc k)) L R _
      have h4' : Eqo [149, 150, 151, 152] I (up I1 150 k (bgF r g sc k)) := h4.st (by decide)
      have er : up I1 150 k (bgF r g sc k) 141 = r := (h4' 141 (by decide)).trans e1
      have h5' : ∀ s, 0 ≤ s → s < r 5 → up I1 150 k (bgF r g sc k) 149 s = opF r g sc s := by rw [up_ne (by decide)]; exact h5
      refine s_aload_n 88 dX12_layTime_87 rfl rfl ?_
      refine s_getR 91 dX12_layTime_88 rfl fl_X12_50 (fun _ _ _ _ => rfl) (T_X12_close hT) sh_138 (Nat.le_of_ble_eq_true rfl) ?_
      refine s_iload_n 92 dX12_layTime_91 rfl rfl ?_
      refine s_aload_n 93 dX12_layTime_92 rfl rfl ?_
      refine s_getR 96 dX12_layTime_93 rfl fl_X12_44 (fun _ _ _ _ => rfl) (T_X12_opens hT) sh_138 (Nat.le_of_ble_eq_true rfl) ?_
      refine s_aload_n 97 dX12_layTime_96 rfl rfl ?_
      refine s_iload_n 98 dX12_layTime_97 rfl rfl ?_
      refine s_iconst 99 dX12_layTime_98 rfl ?_
      refine s_callV0 (M' := M_X12_onOf) (as := [_, _]) 102 dX12_layTime_99 rfl cw_X12_302 rfl rfl sh_138 rfl (by decide) (Nat.le_of_ble_eq_true rfl) (Nat.le_of_ble_eq_true rfl) (Nat.le_of_ble_eq_true rfl) (Nat.le_of_ble_eq_true rfl) ⟨rfl, rfl, rfl⟩ ?_
      refine c_X12_onOf hT er (by omega) (by omega) ?_
      refine s_iald 103 dX12_layTime_102 rfl sh_149 (Nat.le_of_ble_eq_true rfl) (by omega) (by omega) (fun r_102 => ?_)
      rw [h5' _ (by omega) (by omega)] at r_102 ⊢
      refine s_aload_n 104 dX12_layTime_103 rfl rfl ?_
      refine s_iload_n 105 dX12_layTime_104 rfl rfl ?_
      refine s_iconst 106 dX12_layTime_105 rfl ?_
      refine s_callV0 (M' := M_X12_onOf) (as := [_, _]) 109 dX12_layTime_106 rfl cw_X12_302 rfl rfl sh_138 rfl (by decide) (Nat.le_of_ble_eq_true rfl) (Nat.le_of_ble_eq_true rfl) (Nat.le_of_ble_eq_true rfl) (Nat.le_of_ble_eq_true rfl) ⟨rfl, rfl, rfl⟩ ?_
      refine c_X12_onOf hT er (by omega) (by omega) ?_
      refine s_iadd 110 dX12_layTime_109 rfl ?_
      refine s_iast 111 dX12_layTime_110 rfl sh_151 (Nat.le_of_ble_eq_true rfl) (by omega) (by omega) (by first | omega | exact bI_r _ | exact iI_r _) ?_
      change V X M_X12_layTime z0 111 _ [] (up (up I1 150 k (bgF r g sc k)) 151 k (clF r g sc k)) L R _
      obtain ⟨I2, e2⟩ : ∃ I2, I2 = up (up I1 150 k (bgF r g sc k)) 151 k (clF r g sc k) := ⟨_, rfl⟩
      rw [← e2]
      have g4 : Eqo [149, 150, 151, 152] I I2 := by rw [e2]; exact h4'.st (by decide)
      have g5 : ∀ s, 0 ≤ s → s < r 5 → I2 149 s = opF r g sc s := by rw [e2, up_ne (by decide)]; exact h5'
      have g6 : ∀ j, 0 ≤ j → j < k + 1 → I2 150 j = bgF r g sc j ∧ I2 151 j = clF r g sc j := by
        intro j q1 q2
        rw [e2, up_ne (by decide : (150 : Nat) ≠ 151), upd9, upd9, up_ne (by decide : (151 : Nat) ≠ 150)]
        by_cases ej : j = k
        · rw [if_pos ej, if_pos ej, ej]; exact ⟨rfl, rfl⟩
        · rw [if_neg ej, if_neg ej]; exact h6 j q1 (by omega)
      have g7 : I2 152 = I1 152 := by rw [e2, up_ne (by decide), up_ne (by decide)]
      have gk := g6 k (by omega) (by omega)
      have rS := (srF_in (bgF r g sc) k.toNat).1
      have hK : ((k.toNat : Nat) : Int) = k := by omega
      -- behind the row's inner loop
      have exit3 : ∀ (i : Int) (I3 : MI), 0 ≤ i → i ≤ k → Eqo [152] I2 I3 → ipF (bgF r g sc) (I1 152) k k.toNat = i.toNat →
          (∀ j, 0 ≤ j → j ≤ k → j ≠ i → I3 152 j = if i < j then I1 152 (j - 1) else I1 152 j) → V X M_X12_layTime z0 164 [some (vr (138)), some (vr (c)), some (vi (t)), some (vi (k)), some (vi (i))] [] (I3) L R (RT X M_X12_layTime Q) := by
        intro i I3 k2 k3 k4 k5 k6
        refine s_aload_n 165 dX12_layTime_164 rfl rfl ?_
        refine s_getR 168 dX12_layTime_165 rfl fl_X12_53 (fun _ _ _ _ => rfl) (T_X12_inTime hT) sh_138 (Nat.le_of_ble_eq_true rfl) ?_
        refine s_iload 170 dX12_layTime_168 rfl rfl ?_
        refine s_iload_n 171 dX12_layTime_170 rfl rfl ?_
        refine s_iast 172 dX12_layTime_171 rfl sh_152 (Nat.le_of_ble_eq_true rfl) (by omega) (by omega) (by first | omega | exact bI_r _ | exact iI_r _) ?_
        refine s_iinc (ls' := [_, _, _, _, _]) 175 dX12_layTime_172 rfl rfl (Nat.le_of_ble_eq_true rfl) rfl rfl ?_
        refine s_goto 52 dX12_layTime_175 rfl ?_
        skip
        have i4 : ∀ a, a ≠ 152 → up I3 152 i k a = I2 a := fun a ha => by rw [up_ne ha]; exact k4 a (by simpa using ha)
        refine ih (k + 1) t (up I3 152 i k) (by omega) (by omega) (by omega) ?_ ?_ ?_ ?_ _
        · intro a ha
          rw [i4 a (fun e => ha (by rw [e]; decide))]
          exact g4 a ha
        · intro s q1 q2
          rw [i4 149 (by decide)]
          exact g5 s q1 q2
        · intro j q1 q2
          rw [i4 150 (by decide), i4 151 (by decide)]
          exact g6 j q1 q2
        · intro j q1 q2
          rw [show (k + 1).toNat = k.toNat + 1 by omega]
          show _ = inF (bgF r g sc) (srF (bgF r g sc) k.toNat) (k.toNat : Int) k.toNat j
          rw [hK, ← inF_c (a := I1 152) (fun j q1 q2 => h7 j q1 (by omega)) (by omega)]
          unfold inF
          rw [k5, upd9]
          by_cases ej : j = i
          · rw [if_pos ej, if_neg (by omega), if_pos (by omega)]
          · rw [if_neg ej, k6 j q1 (by omega) ej]
            by_cases e2 : i < j
            · rw [if_pos e2, if_neg (by omega), if_neg (by omega), if_pos (by omega)]
            · rw [if_neg e2, if_pos (by omega)]
      -- the row's inner loop
      have loop3 : ∀ (f : Nat) (i : Int) (I3 : MI), i < (f : Int) → 0 ≤ i → i ≤ k → Eqo [152] I2 I3 → ipF (bgF r g sc) (I1 152) k k.toNat = ipF (bgF r g sc) (I1 152) k i.toNat →
          (∀ j, 0 ≤ j → j ≤ k → j ≠ i → I3 152 j = if i < j then I1 152 (j - 1) else I1 152 j) → V X M_X12_layTime z0 114 [some (vr (138)), some (vr (c)), some (vi (t)), some (vi (k)), some (vi (i))] [] (I3) L R (RT X M_X12_layTime Q) := by
        intro f
        induction f with
        | zero => intro i I3 k1 k2; omega
        | succ f ih3 =>
          intro i I3 k1 k2 k3 k4 k5 k6
          refine s_iload 116 dX12_layTime_114 rfl rfl ?_
          refine s_if_le 164 119 dX12_layTime_116 rfl rfl (by first | omega | exact bI_r _ | exact iI_r _) (fun h_116 => ?_) (fun h_116 => ?_)
          · skip
            have ei : i = 0 := by omega
            subst ei
            exact exit3 0 I3 k2 k3 k4 k5 k6
          skip
          have j1 := k6 (i - 1) (by omega) (by omega) (by omega)
          rw [if_neg (by omega)] at j1
          have j2 := rS (i - 1) (by omega) (by omega)
          rw [← h7 (i - 1) (by omega) (by omega)] at j2
          have j3 : I3 150 = I2 150 := k4 150 (by decide)
          have j4 := g6 (I1 152 (i - 1)) (by omega) (by omega)
          have ip : ipF (bgF r g sc) (I1 152) k i.toNat = if bgF r g sc (I1 152 (i - 1)) > bgF r g sc k then ipF (bgF r g sc) (I1 152) k (i - 1).toNat else i.toNat := by
            rw [show i.toNat = (i - 1).toNat + 1 by omega]
            show (if bgF r g sc (I1 152 (((i - 1).toNat : Nat) : Int)) > _ then _ else _) = _
            rw [show (((i - 1).toNat : Nat) : Int) = i - 1 by omega]
          refine s_aload_n 120 dX12_layTime_119 rfl rfl ?_
          refine s_getR 123 dX12_layTime_120 rfl fl_X12_47 (fun _ _ _ _ => rfl) (T_X12_begin hT) sh_138 (Nat.le_of_ble_eq_true rfl) ?_
          refine s_aload_n 124 dX12_layTime_123 rfl rfl ?_
          refine s_getR 127 dX12_layTime_124 rfl fl_X12_53 (fun _ _ _ _ => rfl) (T_X12_inTime hT) sh_138 (Nat.le_of_ble_eq_true rfl) ?_
          refine s_iload 129 dX12_layTime_127 rfl rfl ?_
          refine s_iconst 130 dX12_layTime_129 rfl ?_
          refine s_isub 131 dX12_layTime_130 rfl ?_
          refine s_iald 132 dX12_layTime_131 rfl sh_152 (Nat.le_of_ble_eq_true rfl) (by omega) (by omega) (fun r_131 => ?_)
          rw [j1] at r_131 ⊢
          refine s_iald 133 dX12_layTime_132 rfl sh_150 (Nat.le_of_ble_eq_true rfl) (by omega) (by omega) (fun r_132 => ?_)
          refine s_aload_n 134 dX12_layTime_133 rfl rfl ?_
          refine s_getR 137 dX12_layTime_134 rfl fl_X12_47 (fun _ _ _ _ => rfl) (T_X12_begin hT) sh_138 (Nat.le_of_ble_eq_true rfl) ?_
          refine s_iload_n 138 dX12_layTime_137 rfl rfl ?_
          refine s_iald 139 dX12_layTime_138 rfl sh_150 (Nat.le_of_ble_eq_true rfl) (by omega) (by omega) (fun r_138 => ?_)
          refine s_icmp_le 164 142 dX12_layTime_139 rfl rfl (by first | omega | exact bI_r _ | exact iI_r _) (by first | omega | exact bI_r _ | exact iI_r _) (fun h_139 => ?_) (fun h_139 => ?_)
          · skip
            rw [j3, j4.1, gk.1] at h_139
            rw [ip, if_neg (by omega)] at k5
            exact exit3 i I3 k2 k3 k4 k5 k6
          skip
          rw [j3, j4.1, gk.1] at h_139
          rw [ip, if_pos (by omega)] at k5
          refine s_aload_n 143 dX12_layTime_142 rfl rfl ?_
          refine s_getR 146 dX12_layTime_143 rfl fl_X12_53 (fun _ _ _ _ => rfl) (T_X12_inTime hT) sh_138 (Nat.le_of_ble_eq_true rfl) ?_
          refine s_iload 148 dX12_layTime_146 rfl rfl ?_
          refine s_aload_n 149 dX12_layTime_148 rfl rfl ?_
          refine s_getR 152 dX12_layTime_149 rfl fl_X12_53 (fun _ _ _ _ => rfl) (T_X12_inTime hT) sh_138 (Nat.le_of_ble_eq_true rfl) ?_
          refine s_iload 154 dX12_layTime_152 rfl rfl ?_
          refine s_iconst 155 dX12_layTime_154 rfl ?_
          refine s_isub 156 dX12_layTime_155 rfl ?_
          refine s_iald 157 dX12_layTime_156 rfl sh_152 (Nat.le_of_ble_eq_true rfl) (by omega) (by omega) (fun r_156 => ?_)
          refine s_iast 158 dX12_layTime_157 rfl sh_152 (Nat.le_of_ble_eq_true rfl) (by omega) (by omega) (by first | omega | exact bI_r _ | exact iI_r _) ?_
          refine s_iinc (ls' := [_, _, _, _, _]) 161 dX12_layTime_158 rfl rfl (Nat.le_of_ble_eq_true rfl) rfl rfl ?_
          refine s_goto 114 dX12_layTime_161 rfl ?_
          refine ih3 (i - 1) _ (by omega) (by omega) (by omega) (k4.st (by decide)) k5 (fun j q1 q2 q3 => ?_)
          rw [upd9]
          by_cases ej : j = i
          · rw [if_pos ej, if_pos (by omega), ej, j1]
          · rw [if_neg ej, k6 j q1 q2 ej]
            by_cases e2 : i < j
            · rw [if_pos e2, if_pos (by omega)]
            · rw [if_neg e2, if_neg (by omega)]
      refine s_iload_n 112 dX12_layTime_111 rfl rfl ?_
      refine s_istore (ls' := [_, _, _, _, _]) 114 dX12_layTime_112 rfl (Nat.le_of_ble_eq_true rfl) rfl rfl ?_
      refine loop3 (k + 1).toNat k I2 (by omega) h2 (Int.le_refl _) Eqo.rf rfl (fun j q1 q2 q3 => ?_)
      rw [if_neg (by omega), g7]
  -- the scenes
  have loop1 : ∀ (f : Nat) (i : Int) (I1 : MI), r 5 - i < (f : Int) → 0 ≤ i → i ≤ r 5 → Eqo [149] I I1 → (∀ j, 0 ≤ j → j < i → I1 149 (sc j) = tmI r g sc j) → V X M_X12_layTime z0 4 [some (vr (138)), some (vr (c)), some (vi (tmI r g sc i)), some (vi (i)), none] [] (I1) L R (RT X M_X12_layTime Q) := by
    intro f
    induction f with
    | zero => intro i I1 h1 h2 h3; omega
    | succ f ih =>
      intro i I1 h1 h2 h3 h4 h5
      have er : I1 141 = r := (h4 141 (by decide)).trans e1
      have ec : I1 c = sc := (h4 c (fun e => hcd (by rw [List.mem_singleton.mp e]; decide))).trans esc
      refine s_iload_n 5 dX12_layTime_4 rfl rfl ?_
      refine s_aload_n 6 dX12_layTime_5 rfl rfl ?_
      refine s_getR 9 dX12_layTime_6 rfl fl_X12_20 (fun _ _ _ _ => rfl) (T_X12_r hT) sh_138 (Nat.le_of_ble_eq_true rfl) ?_
      refine s_iconst 10 dX12_layTime_9 rfl ?_
      refine s_iald 11 dX12_layTime_10 rfl sh_141 (Nat.le_of_ble_eq_true rfl) (by omega) (by omega) (fun r_10 => ?_)
      rw [er] at r_10 ⊢
      refine s_icmp_ge 50 14 dX12_layTime_11 rfl rfl (by first | omega | exact bI_r _ | exact iI_r _) (by first | omega | exact bI_r _ | exact iI_r _) (fun h_11 => ?_) (fun h_11 => ?_)
      · skip
        skip
        have ei : i = r 5 := by omega
        subst ei
        refine s_iconst 51 dX12_layTime_50 rfl ?_
        refine s_istore_n (ls' := [_, _, _, _, _]) 52 dX12_layTime_51 rfl (Nat.le_of_ble_eq_true rfl) rfl rfl ?_
        refine loop2 (r 7 + 1).toNat 0 _ I1 (by omega) (by omega) (by omega) (h4.mo (by decide)) (fun s q1 q2 => ?_) (fun j q1 q2 => by omega) (fun j q1 q2 => by omega) _
        have q3 := posF_at hp (by omega) ⟨q1, q2⟩
        rw [opF, ← h5 _ q3.1 q3.2.1, q3.2.2]
      skip
      have p1 := hp.1 i h2 (by omega)
      have p2 := hr.2.2.1 (sc i) (by omega) (by omega)
      have p3 := tmI_b hr hp hg (i := i) ⟨h2, by omega⟩
      have ps : I1 c i = sc i := by rw [ec]
      have pt := congrFun er (44 + sc i)
      refine s_aload_n 15 dX12_layTime_14 rfl rfl ?_
      refine s_getR 18 dX12_layTime_15 rfl fl_X12_44 (fun _ _ _ _ => rfl) (T_X12_opens hT) sh_138 (Nat.le_of_ble_eq_true rfl) ?_
      refine s_aload_n 19 dX12_layTime_18 rfl rfl ?_
      refine s_iload_n 20 dX12_layTime_19 rfl rfl ?_
      refine s_iald 21 dX12_layTime_20 rfl (by assumption) (by assumption) (by omega) (by omega) (fun r_20 => ?_)
      rw [ec] at r_20 ⊢
      refine s_iload_n 22 dX12_layTime_21 rfl rfl ?_
      refine s_iast 23 dX12_layTime_22 rfl sh_149 (Nat.le_of_ble_eq_true rfl) (by omega) (by omega) (by first | omega | exact bI_r _ | exact iI_r _) ?_
      skip
      have u1 : up I1 149 (sc i) (tmI r g sc i) 141 = r := by rw [up_ne (by decide)]; exact er
      have u2 : up I1 149 (sc i) (tmI r g sc i) c = sc := by rw [up_ne (fun e => hcd (by rw [e]; decide))]; exact ec
      refine s_iload_n 24 dX12_layTime_23 rfl rfl ?_
      refine s_aload_n 25 dX12_layTime_24 rfl rfl ?_
      refine s_getR 28 dX12_layTime_25 rfl fl_X12_20 (fun _ _ _ _ => rfl) (T_X12_r hT) sh_138 (Nat.le_of_ble_eq_true rfl) ?_
      refine s_bipush 30 dX12_layTime_28 rfl (by decide) ?_
      refine s_aload_n 31 dX12_layTime_30 rfl rfl ?_
      refine s_iload_n 32 dX12_layTime_31 rfl rfl ?_
      refine s_iald 33 dX12_layTime_32 rfl (by assumption) (by assumption) (by omega) (by omega) (fun r_32 => ?_)
      rw [u2] at r_32 ⊢
      refine s_iadd 34 dX12_layTime_33 rfl ?_
      refine s_iald 35 dX12_layTime_34 rfl sh_141 (Nat.le_of_ble_eq_true rfl) (by omega) (by omega) (fun r_34 => ?_)
      rw [u1] at r_34 ⊢
      refine s_aload_n 36 dX12_layTime_35 rfl rfl ?_
      refine s_getR 39 dX12_layTime_36 rfl fl_X12_20 (fun _ _ _ _ => rfl) (T_X12_r hT) sh_138 (Nat.le_of_ble_eq_true rfl) ?_
      refine s_iconst 40 dX12_layTime_39 rfl ?_
      refine s_iald 41 dX12_layTime_40 rfl sh_141 (Nat.le_of_ble_eq_true rfl) (by omega) (by omega) (fun r_40 => ?_)
      rw [u1] at r_40 ⊢
      refine s_iadd 42 dX12_layTime_41 rfl ?_
      refine s_iadd 43 dX12_layTime_42 rfl ?_
      refine s_istore_n (ls' := [_, _, _, _, _]) 44 dX12_layTime_43 rfl (Nat.le_of_ble_eq_true rfl) rfl rfl ?_
      refine s_iinc (ls' := [_, _, _, _, _]) 47 dX12_layTime_44 rfl rfl (Nat.le_of_ble_eq_true rfl) rfl rfl ?_
      refine s_goto 4 dX12_layTime_47 rfl ?_
      rw [eg, ← tmI_s h2]
      refine ih (i + 1) _ (by omega) (by omega) (by omega) (h4.st (by decide)) (fun j q1 q2 => ?_)
      rw [upd9]
      by_cases ej : j = i
      · rw [if_pos (by rw [ej]), ej]
      · rw [if_neg (fun e => ej (hp.2.1 j i q1 (by omega) h2 (by omega) e)), h5 j q1 (by omega)]
  refine s_iconst 1 dX12_layTime_0 rfl ?_
  refine s_istore_n (ls' := [_, _, _, _, _]) 2 dX12_layTime_1 rfl (Nat.le_of_ble_eq_true rfl) rfl rfl ?_
  refine s_iconst 3 dX12_layTime_2 rfl ?_
  refine s_istore_n (ls' := [_, _, _, _, _]) 4 dX12_layTime_3 rfl (Nat.le_of_ble_eq_true rfl) rfl rfl ?_
  exact loop1 (r 5 + 1).toNat 0 I (by omega) (by omega) (by omega) Eqo.rf (fun j q1 q2 => by omega)
