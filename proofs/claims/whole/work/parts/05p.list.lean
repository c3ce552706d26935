/-! all ORDERS, as the class lists them -/
def okA (r : F1) (pre : List Int) (x : Int) : Prop := x ∉ pre ∧ ∀ s, 0 ≤ s → s < 32 → hasI (r (49 + x)) s → s ∈ pre
noncomputable def exF (r : F1) : Nat → List Int → List (List Int)
  | 0, pre => [pre]
  | m + 1, pre => (List.range (r 5).toNat).flatMap (fun x : Nat => pick (okA r pre x) (exF r m (pre ++ [(x : Int)])) [])
/-- the first k of the branches -/
noncomputable def exK (r : F1) (m : Nat) (pre : List Int) (k : Nat) : List (List Int) := (List.range k).flatMap (fun x : Nat => pick (okA r pre x) (exF r m (pre ++ [(x : Int)])) [])
theorem exK_s {r : F1} {m k : Nat} {pre : List Int} : exK r m pre (k + 1) = exK r m pre k ++ pick (okA r pre k) (exF r m (pre ++ [(k : Int)])) [] := by
  unfold exK
  rw [List.range_succ, List.flatMap_append]
  simp
theorem exK_m {r : F1} {m k : Nat} {pre : List Int} : ∀ d, (exK r m pre k).length ≤ (exK r m pre (k + d)).length
  | 0 => Nat.le_refl _
  | d + 1 => by
    have := exK_m (r := r) (m := m) (k := k) (pre := pre) d
    rw [← Nat.add_assoc, exK_s, List.length_append]
    omega
theorem exF_K {r : F1} {m : Nat} {pre : List Int} : exF r (m + 1) pre = exK r m pre (r 5).toNat := rfl
theorem vL_ap {l : List Int} {x k : Int} (h : 0 ≤ k ∧ k < (l.length : Int)) : vL (l ++ [x]) k = vL l k := by
  unfold vL
  rw [List.getD_eq_getElem?_getD, List.getD_eq_getElem?_getD, List.getElem?_append_left (by omega)]
theorem vL_at {l : List Int} {x : Int} : vL (l ++ [x]) l.length = x := by
  unfold vL
  rw [List.getD_eq_getElem?_getD, Int.toNat_natCast, List.getElem?_concat_length]
  rfl
theorem mem_vL {l : List Int} {x : Int} : x ∈ l ↔ ∃ i : Int, 0 ≤ i ∧ i < l.length ∧ vL l i = x := by
  constructor
  · intro h
    obtain ⟨i, hi, e⟩ := List.getElem_of_mem h
    refine ⟨i, by omega, by omega, ?_⟩
    unfold vL
    rw [List.getD_eq_getElem?_getD, Int.toNat_natCast, List.getElem?_eq_getElem hi, e]
    rfl
  · rintro ⟨i, h1, h2, h3⟩
    unfold vL at h3
    rw [List.getD_eq_getElem?_getD, List.getElem?_eq_getElem (by omega)] at h3
    rw [← h3]
    exact List.getElem_mem _
/-- the prefix keeps what must come ahead -/
def OkP (r : F1) (pre : List Int) : Prop := ∀ i, 0 ≤ i → i < (pre.length : Int) → ∀ s, 0 ≤ s → s < 32 → hasI (r (49 + vL pre i)) s → ∃ j, 0 ≤ j ∧ j < i ∧ vL pre j = s
theorem OkP.ap {r : F1} {pre : List Int} {x : Int} (h : OkP r pre) (hx : ∀ s, 0 ≤ s → s < 32 → hasI (r (49 + x)) s → s ∈ pre) : OkP r (pre ++ [x]) := by
  intro i i1 i2 s s1 s2 s3
  rw [List.length_append, List.length_singleton] at i2
  by_cases e : i < pre.length
  · rw [vL_ap ⟨i1, e⟩] at s3
    obtain ⟨j, a, b, c⟩ := h i i1 e s s1 s2 s3
    exact ⟨j, a, b, by rw [vL_ap ⟨a, by omega⟩]; exact c⟩
  · have e2 : i = pre.length := by omega
    subst e2
    rw [vL_at] at s3
    obtain ⟨j, a, b, c⟩ := mem_vL.mp (hx s s1 s2 s3)
    exact ⟨j, a, b, by rw [vL_ap ⟨a, b⟩]; exact c⟩
theorem prs_pre {α : Type} {P : α → Bool} : ∀ {l : List α}, (∀ x ∈ l, P x = false) → l.filter P = []
  | [], _ => rfl
  | a :: l, h => by
    rw [List.filter_cons_of_neg (by rw [h a (by simp)]; simp)]
    exact prs_pre (fun x hx => h x (by simp [hx]))
def rem (n : Nat) (pre : List Int) : List Int := (idl n).filter (fun x => decide (x ∉ pre))
theorem idl_nd (n : Nat) : (idl n).Nodup := nodup_map (v := fun k => k) (fun i j a b c d e => e)
theorem rem_s {n : Nat} {pre : List Int} {x : Int} : (rem n pre).erase x = rem n (pre ++ [x]) := by
  unfold rem
  rw [List.Nodup.erase_eq_filter (List.Pairwise.filter _ (idl_nd n)), List.filter_filter]
  refine List.filter_congr (fun y _ => ?_)
  by_cases e : y = x
  · subst e; simp
  · simp [e]
theorem fl_if {α β : Type} {p : α → Bool} {f : α → List β} : ∀ {l : List α}, (l.filter p).flatMap f = l.flatMap (fun x => if p x then f x else [])
  | [] => rfl
  | a :: l => by
    by_cases e : p a = true
    · rw [List.filter_cons_of_pos e, List.flatMap_cons, List.flatMap_cons, if_pos e, fl_if]
    · rw [List.filter_cons_of_neg e, List.flatMap_cons, if_neg e, fl_if]; rfl
theorem fm_c {α β : Type} {f g : α → List β} : ∀ {l : List α}, (∀ x ∈ l, f x = g x) → l.flatMap f = l.flatMap g
  | [], _ => rfl
  | a :: l, h => by
    rw [List.flatMap_cons, List.flatMap_cons, h a (by simp), fm_c (fun x hx => h x (by simp [hx]))]
theorem exF_eq {r : F1} (hb : ∀ s, 0 ≤ s → s < r 5 → ∀ q, 0 ≤ q → q < 32 → hasI (r (49 + s)) q → q < r 5) : ∀ (m : Nat) (pre : List Int), pre.length + m = (r 5).toNat → OkP r pre → exF r m pre = ((prs m (rem (r 5).toNat pre)).map (fun t => pre ++ t)).filter (ordB r)
  | 0, pre, h, hp => by
    show [pre] = (([[]] : List (List Int)).map (fun t => pre ++ t)).filter (ordB r)
    have : ordB r pre = true := ordB_t.mpr (fun i i1 i2 => hp i i1 (by omega))
    simp [this]
  | m + 1, pre, h, hp => by
    unfold exF
    unfold prs
    rw [List.map_flatMap, List.filter_flatMap]
    conv => rhs; rw [show rem (r 5).toNat pre = (idl (r 5).toNat).filter (fun x => decide (x ∉ pre)) from rfl]
    rw [fl_if]
    unfold idl
    rw [List.flatMap_map]
    refine fm_c (fun x hx => ?_)
    rw [List.mem_range] at hx
    by_cases e : (x : Int) ∈ pre
    · rw [pick_f (fun z => z.1 e), if_neg (by simp [e])]
    · rw [if_pos (by simp [e])]
      have er := rem_s (n := (r 5).toNat) (pre := pre) (x := (x : Int))
      unfold rem idl at er
      rw [er, List.map_map]
      have ef : ((fun t => pre ++ t) ∘ fun t => (x : Int) :: t) = fun t => (pre ++ [(x : Int)]) ++ t := by
        funext t
        simp
      rw [ef]
      by_cases e2 : ∀ s, 0 ≤ s → s < 32 → hasI (r (49 + (x : Int))) s → s ∈ pre
      · rw [pick_t ⟨e, e2⟩]
        exact exF_eq hb m (pre ++ [(x : Int)]) (by simp; omega) (hp.ap e2)
      · rw [pick_f (fun z => e2 z.2)]
        symm
        refine prs_pre (fun l hl => ?_)
        obtain ⟨t, -, rfl⟩ := List.mem_map.mp hl
        rw [← Bool.not_eq_true, ordB_t]
        intro z
        refine e2 (fun s s1 s2 s3 => ?_)
        have lx : ∀ j, 0 ≤ j → j ≤ (pre.length : Int) → vL ((pre ++ [(x : Int)]) ++ t) j = vL (pre ++ [(x : Int)]) j := fun j j1 j2 => by
          unfold vL
          rw [List.getD_eq_getElem?_getD, List.getD_eq_getElem?_getD, List.getElem?_append_left (by simp; omega)]
        obtain ⟨j, j1, j2, j3⟩ := z pre.length (by omega) (by omega) s s1 s2 (by rw [lx _ (by omega) (by omega), vL_at]; exact s3)
        rw [lx j j1 (by omega), vL_ap ⟨j1, j2⟩] at j3
        exact mem_vL.mpr ⟨j, j1, j2, j3⟩
theorem exF_ordL {r : F1} (hb : ∀ s, 0 ≤ s → s < r 5 → ∀ q, 0 ≤ q → q < 32 → hasI (r (49 + s)) q → q < r 5) : exF r (r 5).toNat [] = ordL r := by
  rw [exF_eq hb (r 5).toNat [] (by simp) (fun i a b => by simp at b; omega)]
  unfold ordL perms
  have : rem (r 5).toNat [] = idl (r 5).toNat := by unfold rem; simp
  rw [this]
  simp
theorem has_nz {S k : Int} : iand (ishr S k) 1 ≠ 0 ↔ hasI S k := by
  rcases bit01 S k with e | e <;> unfold hasI <;> omega
def OLs (I : MI) (P : Nat) (r : F1) (l : List (List Int)) : Prop := I P 8 = (l.length : Int) ∧ ∀ j : Nat, j < l.length → EnO (I (P + 35) j) (vL (l.getD j [])) (r 5)
def LoF (P : Nat) (I I' : MI) : Prop := (∀ c, c ≠ P → c ≠ P + 35 → I' c = I c) ∧ ∀ k, k ≠ 8 → I' P k = I P k
theorem LoF.rf {P : Nat} {I : MI} : LoF P I I := ⟨fun _ _ _ => rfl, fun _ _ => rfl⟩
theorem LoF.tr {P : Nat} {I I' I'' : MI} (h : LoF P I I') (h' : LoF P I' I'') : LoF P I I'' := ⟨fun c a b => (h'.1 c a b).trans (h.1 c a b), fun k a => (h'.2 k a).trans (h.2 k a)⟩
theorem PR.lo {P : Nat} {I I' : MI} {r : F1} (hr : 0 ≤ r 4 ∧ r 4 ≤ 7 ∧ 0 ≤ r 7 ∧ r 7 ≤ 14 ∧ 0 ≤ r 8 ∧ r 8 ≤ 7) (h : PR I P r) (hf : LoF P I I') : PR I' P r := by
  obtain ⟨⟨a0, a1, a2, a3, a4, a5, a6, a7⟩, ⟨b1, b2, b3⟩, hp, ho, hs, hl, hA, hO⟩ := h
  have e := hf.1
  have f := hf.2
  refine ⟨⟨by rw [f _ (by decide)]; exact a0, by rw [f _ (by decide)]; exact a1, by rw [f _ (by decide)]; exact a2, by rw [f _ (by decide)]; exact a3, by rw [f _ (by decide)]; exact a4, by rw [f _ (by decide)]; exact a5, by rw [f _ (by decide)]; exact a6, by rw [f _ (by decide)]; exact a7⟩, ⟨by rw [f _ (by decide)]; exact b1, by rw [f _ (by decide)]; exact b2, by rw [f _ (by decide)]; exact b3⟩, fun p c d => ?_, fun k c d => ?_, fun w c d => ?_, fun s c d => ?_, fun s c d => ?_, fun p c d => ?_⟩
  · unfold rowP; rw [e (P + 2 + p.toNat) (by omega) (by omega)]; exact hp p c d
  · unfold rowO; rw [e (P + 10 + k.toNat) (by omega) (by omega)]; exact ho k c d
  · unfold rowS; rw [e (P + 25 + w.toNat) (by omega) (by omega)]; exact hs w c d
  · rw [e (P + 32) (by omega) (by omega)]; exact hl s c d
  · rw [e (P + 33) (by omega) (by omega)]; exact hA s c d
  · rw [e (P + 34) (by omega) (by omega)]; exact hO p c d
theorem OLs.ap {I : MI} {P : Nat} {r : F1} {l : List (List Int)} {pre : List Int} {o : Int} (h : OLs I P r l) (ho : EnO o (vL pre) (r 5)) : OLs (up (up I (P + 35) l.length o) P 8 (l.length + 1)) P r (l ++ [pre]) := by
  refine ⟨by rw [ups, List.length_append, List.length_singleton]; omega, fun j hj => ?_⟩
  rw [List.length_append, List.length_singleton] at hj
  rw [up_ne (by omega : P + 35 ≠ P)]
  by_cases e : j = l.length
  · subst e
    rw [ups, List.getD_eq_getElem?_getD, List.getElem?_concat_length]
    exact ho
  · rw [upn (by omega), List.getD_eq_getElem?_getD, List.getElem?_append_left (by omega), ← List.getD_eq_getElem?_getD]
    exact h.2 j (by omega)
theorem exK_le {r : F1} {m k : Nat} {pre : List Int} (h : k ≤ (r 5).toNat) : (exK r m pre k).length ≤ (exF r (m + 1) pre).length := by
  have := exK_m (r := r) (m := m) (k := k) (pre := pre) ((r 5).toNat - k)
  rw [show k + ((r 5).toNat - k) = (r 5).toNat by omega] at this
  exact this
set_option maxHeartbeats 4000000 in
theorem c_X5_placeScenes (d : Nat) : ∀ {E : ET} {I : MI} {L : ML} {R : MR} {Q : Option AV → MI → ML → MR → Prop} {P : Nat} {r : F1} {pre : List Int} {l : List (List Int)} {cnt S o : Int} (hT : Topo R) (hP : isP P) (hr : WFr r) (hR : PR I P r) (hd : r 5 - cnt < (d : Int)) (hc : cnt = (pre.length : Int)) (hc5 : cnt ≤ r 5) (hS : ∀ k, 0 ≤ k → k < 32 → (hasI S k ↔ k ∈ pre)) (ho : EnO o (vL pre) cnt) (hl : OLs I P r l) (hn : (l ++ exF r (r 5 - cnt).toNat pre).length ≤ 120) (h : ∀ I', LoF P I I' → OLs I' P r (l ++ exF r (r 5 - cnt).toNat pre) → Q none I' L R), CT E (M_X5_placeScenes d) 161 yX5_placeScenes [(vr (P)), (vi (cnt)), (vi (S)), (vi (o))] I L R Q := by
  induction d with
  | zero => intros; exfalso; omega
  | succ d ih =>
  intro E I L R Q P r pre l cnt S o hT hP hr hR hd hc hc5 hS ho hl hn h
  refine CT_of rfl rfl (fun h => by cases h) (Nat.le_of_ble_eq_true rfl) (fun X => ?_)
  show V X _ z0 0 [some (vr (P)), some (vi (cnt)), some (vi (S)), some (vi (o)), none] [] I L R _
  have hp : P = 3 ∨ P = 39 := hP
  have e0 := hr.1
  have e4 := hR.1.2.2.2.2.1
  by_cases hi : cnt < r 5
  · obtain ⟨m, hm⟩ : ∃ m : Nat, (r 5 - cnt).toNat = m + 1 := ⟨(r 5 - cnt).toNat - 1, by omega⟩
    rw [hm] at h hn
    rw [List.length_append] at hn
    have loop : ∀ (f : Nat) (s : Int) (I1 : MI), r 5 - s < (f : Int) → 0 ≤ s → s ≤ r 5 → LoF P I I1 → OLs I1 P r (l ++ exK r m pre s.toNat) → V X (M_X5_placeScenes (d + 1)) z0 41 [some (vr P), some (vi cnt), some (vi S), some (vi o), some (vi s)] [] I1 L R (RT X (M_X5_placeScenes (d + 1)) Q) := by
      intro f
      induction f with
      | zero => intro s I1 h1 h2 h3; omega
      | succ f ih2 =>
        intro s I1 h1 h2 h3 hf hl1
        have hR1 := hR.lo (by omega) hf
        have e41 := hR1.1.2.2.2.2.1
        have eA := hR1.2.2.2.2.2.2.1
        by_cases hs : s < r 5
        · have hb := hr.2.2.1 s h2 (by omega)
          have ea := eA s h2 (by omega)
          have es : (s + 1).toNat = s.toNat + 1 := by omega
          have es2 : ((s.toNat : Nat) : Int) = s := by omega
          have step : ∀ I2, LoF P I I2 → OLs I2 P r (l ++ exK r m pre (s + 1).toNat) → V X (M_X5_placeScenes (d + 1)) z0 41 [some (vr P), some (vi cnt), some (vi S), some (vi o), some (vi (s + 1))] [] I2 L R (RT X (M_X5_placeScenes (d + 1)) Q) := fun I2 g1 g2 => ih2 (s + 1) I2 (by omega) (by omega) (by omega) g1 g2
          rw [es, exK_s, es2] at step
          by_cases hA : okA r pre s
          · rw [pick_t hA] at step
            have hm2 : (r 5 - (cnt + 1)).toNat = m := by omega
            have hle := exK_le (r := r) (m := m) (k := s.toNat + 1) (pre := pre) (by omega)
            rw [exK_s, es2, pick_t hA, List.length_append] at hle
            refine s_iload 43 dX5_placeScenes_41 rfl rfl ?_
            refine s_aload_n 44 dX5_placeScenes_43 rfl rfl ?_
            refine s_getI 47 dX5_placeScenes_44 rfl fl_X5_48 (fun _ _ _ _ => rfl) (isP_sh hP) (isP_lt hP) (fun r_44 => ?_)
            rw [e41]
            refine s_icmp_ge 101 50 dX5_placeScenes_47 rfl rfl (by first | omega | exact bI_r _ | exact iI_r _) (by first | omega | exact bI_r _ | exact iI_r _) (fun h_47 => by exfalso; omega) (fun h_47 => ?_)
            refine s_iload_n 51 dX5_placeScenes_50 rfl rfl ?_
            refine s_iload 53 dX5_placeScenes_51 rfl rfl ?_
            refine s_ishr 54 dX5_placeScenes_53 rfl ?_
            refine s_iconst 55 dX5_placeScenes_54 rfl ?_
            refine s_iand 56 dX5_placeScenes_55 rfl ?_
            refine s_if_ne 95 59 dX5_placeScenes_56 rfl rfl (by first | omega | exact iand_r _ _) (fun h_56 => by exfalso; exact hA.1 ((hS s h2 (by omega)).mp (has_nz.mp h_56))) (fun h_56 => ?_)
            refine s_aload_n 60 dX5_placeScenes_59 rfl rfl ?_
            refine s_getR 63 dX5_placeScenes_60 rfl fl_X5_26 (fun _ _ _ _ => rfl) (T_X5_ahead hT hP) (isP_sh hP) (isP_lt hP) ?_
            refine s_iload 65 dX5_placeScenes_63 rfl rfl ?_
            refine s_iald 66 dX5_placeScenes_65 rfl (shP_ahead hP) (ltP_ahead hP) (by omega) (by omega) (fun r_65 => ?_)
            rw [ea]
            refine s_iload_n 67 dX5_placeScenes_66 rfl rfl ?_
            refine s_iconst 68 dX5_placeScenes_67 rfl ?_
            refine s_ixor 69 dX5_placeScenes_68 rfl ?_
            refine s_iand 70 dX5_placeScenes_69 rfl ?_
            refine s_if_ne 95 73 dX5_placeScenes_70 rfl rfl (by first | omega | exact iand_r _ _) (fun h_70 => by exfalso; exact h_70 ((andn_0 (by omega)).mpr (fun k k1 k2 k3 => (hS k k1 k2).mpr (hA.2 k k1 k2 k3)))) (fun h_70 => ?_)
            refine s_aload_n 74 dX5_placeScenes_73 rfl rfl ?_
            refine s_iload_n 75 dX5_placeScenes_74 rfl rfl ?_
            refine s_iconst 76 dX5_placeScenes_75 rfl ?_
            refine s_iadd 77 dX5_placeScenes_76 rfl ?_
            refine s_iload_n 78 dX5_placeScenes_77 rfl rfl ?_
            refine s_iconst 79 dX5_placeScenes_78 rfl ?_
            refine s_iload 81 dX5_placeScenes_79 rfl rfl ?_
            refine s_ishl 82 dX5_placeScenes_81 rfl ?_
            refine s_ior 83 dX5_placeScenes_82 rfl ?_
            refine s_iload_n 84 dX5_placeScenes_83 rfl rfl ?_
            refine s_iload 86 dX5_placeScenes_84 rfl rfl ?_
            refine s_iload_n 87 dX5_placeScenes_86 rfl rfl ?_
            refine s_callSN0 (M' := M_X11_shiftAt) (as := [_]) 90 dX5_placeScenes_87 rfl cw_X5_94 rfl rfl (by first | exact Nat.le_of_ble_eq_true rfl | (simp only [mrk]; omega)) (Nat.le_of_ble_eq_true rfl) (Nat.le_of_ble_eq_true rfl) ⟨rfl, rfl, rfl⟩ ?_
            refine c_X11_shiftAt (by omega) ?_
            refine s_ishl 91 dX5_placeScenes_90 rfl ?_
            refine s_ior 92 dX5_placeScenes_91 rfl ?_
            refine s_callV0 (M' := (M_X5_placeScenes d)) (as := [_, _, _]) 95 dX5_placeScenes_92 rfl cw_X5_90 rfl rfl (isP_sh hP) rfl (by decide) (isP_lt hP) (by first | exact Nat.le_of_ble_eq_true rfl | (simp only [mrk]; omega)) (Nat.le_of_ble_eq_true rfl) (Nat.le_of_ble_eq_true rfl) ⟨rfl, rfl, rfl⟩ ?_
            refine ih (pre := pre ++ [s]) (l := l ++ exK r m pre s.toNat) hT hP hr hR1 (by omega) (by rw [List.length_append, List.length_singleton]; omega) (by omega) (fun k k1 k2 => ?_) ?_ hl1 (by rw [hm2, List.length_append, List.length_append]; omega) (fun I2 g1 g2 => ?_)
            · rw [has_or ⟨k1, k2⟩, hS k k1 k2, has_shl (by omega) ⟨k1, k2⟩, List.mem_append, List.mem_singleton]
            · refine ho.put (by omega) (by omega) (fun i i1 i2 => vL_ap ⟨i1, by omega⟩) ?_
              rw [hc]; exact vL_at
            rw [hm2, List.append_assoc] at g2
            refine s_iinc (ls' := [_, _, _, _, _]) 98 dX5_placeScenes_95 rfl rfl (Nat.le_of_ble_eq_true rfl) rfl rfl ?_
            refine s_goto 41 dX5_placeScenes_98 rfl ?_
            exact step I2 (hf.tr g1) g2
          · rw [pick_f hA, List.append_nil] at step
            by_cases hA1 : s ∈ pre
            · skip
              refine s_iload 43 dX5_placeScenes_41 rfl rfl ?_
              refine s_aload_n 44 dX5_placeScenes_43 rfl rfl ?_
              refine s_getI 47 dX5_placeScenes_44 rfl fl_X5_48 (fun _ _ _ _ => rfl) (isP_sh hP) (isP_lt hP) (fun r_44 => ?_)
              rw [e41]
              refine s_icmp_ge 101 50 dX5_placeScenes_47 rfl rfl (by first | omega | exact bI_r _ | exact iI_r _) (by first | omega | exact bI_r _ | exact iI_r _) (fun h_47 => by exfalso; omega) (fun h_47 => ?_)
              refine s_iload_n 51 dX5_placeScenes_50 rfl rfl ?_
              refine s_iload 53 dX5_placeScenes_51 rfl rfl ?_
              refine s_ishr 54 dX5_placeScenes_53 rfl ?_
              refine s_iconst 55 dX5_placeScenes_54 rfl ?_
              refine s_iand 56 dX5_placeScenes_55 rfl ?_
              refine s_if_ne 95 59 dX5_placeScenes_56 rfl rfl (by first | omega | exact iand_r _ _) (fun h_56 => ?_) (fun h_56 => by exfalso; exact (has_nz.mpr ((hS s h2 (by omega)).mpr hA1)) h_56)
              refine s_iinc (ls' := [_, _, _, _, _]) 98 dX5_placeScenes_95 rfl rfl (Nat.le_of_ble_eq_true rfl) rfl rfl ?_
              refine s_goto 41 dX5_placeScenes_98 rfl ?_
              exact step I1 hf hl1
            · skip
              refine s_iload 43 dX5_placeScenes_41 rfl rfl ?_
              refine s_aload_n 44 dX5_placeScenes_43 rfl rfl ?_
              refine s_getI 47 dX5_placeScenes_44 rfl fl_X5_48 (fun _ _ _ _ => rfl) (isP_sh hP) (isP_lt hP) (fun r_44 => ?_)
              rw [e41]
              refine s_icmp_ge 101 50 dX5_placeScenes_47 rfl rfl (by first | omega | exact bI_r _ | exact iI_r _) (by first | omega | exact bI_r _ | exact iI_r _) (fun h_47 => by exfalso; omega) (fun h_47 => ?_)
              refine s_iload_n 51 dX5_placeScenes_50 rfl rfl ?_
              refine s_iload 53 dX5_placeScenes_51 rfl rfl ?_
              refine s_ishr 54 dX5_placeScenes_53 rfl ?_
              refine s_iconst 55 dX5_placeScenes_54 rfl ?_
              refine s_iand 56 dX5_placeScenes_55 rfl ?_
              refine s_if_ne 95 59 dX5_placeScenes_56 rfl rfl (by first | omega | exact iand_r _ _) (fun h_56 => by exfalso; exact hA1 ((hS s h2 (by omega)).mp (has_nz.mp h_56))) (fun h_56 => ?_)
              refine s_aload_n 60 dX5_placeScenes_59 rfl rfl ?_
              refine s_getR 63 dX5_placeScenes_60 rfl fl_X5_26 (fun _ _ _ _ => rfl) (T_X5_ahead hT hP) (isP_sh hP) (isP_lt hP) ?_
              refine s_iload 65 dX5_placeScenes_63 rfl rfl ?_
              refine s_iald 66 dX5_placeScenes_65 rfl (shP_ahead hP) (ltP_ahead hP) (by omega) (by omega) (fun r_65 => ?_)
              rw [ea]
              refine s_iload_n 67 dX5_placeScenes_66 rfl rfl ?_
              refine s_iconst 68 dX5_placeScenes_67 rfl ?_
              refine s_ixor 69 dX5_placeScenes_68 rfl ?_
              refine s_iand 70 dX5_placeScenes_69 rfl ?_
              refine s_if_ne 95 73 dX5_placeScenes_70 rfl rfl (by first | omega | exact iand_r _ _) (fun h_70 => ?_) (fun h_70 => by exfalso; exact hA ⟨hA1, fun k k1 k2 k3 => (hS k k1 k2).mp ((andn_0 (by omega)).mp h_70 k k1 k2 k3)⟩)
              refine s_iinc (ls' := [_, _, _, _, _]) 98 dX5_placeScenes_95 rfl rfl (Nat.le_of_ble_eq_true rfl) rfl rfl ?_
              refine s_goto 41 dX5_placeScenes_98 rfl ?_
              exact step I1 hf hl1
        · have e : s = r 5 := by omega
          subst e
          rw [← exF_K] at hl1
          refine s_iload 43 dX5_placeScenes_41 rfl rfl ?_
          refine s_aload_n 44 dX5_placeScenes_43 rfl rfl ?_
          refine s_getI 47 dX5_placeScenes_44 rfl fl_X5_48 (fun _ _ _ _ => rfl) (isP_sh hP) (isP_lt hP) (fun r_44 => ?_)
          rw [e41]
          refine s_icmp_ge 101 50 dX5_placeScenes_47 rfl rfl (by first | omega | exact bI_r _ | exact iI_r _) (by first | omega | exact bI_r _ | exact iI_r _) (fun h_47 => ?_) (fun h_47 => by exfalso; omega)
          refine s_vret dX5_placeScenes_101 rfl rfl ?_
          exact h I1 hf hl1
    refine s_iload_n 1 dX5_placeScenes_0 rfl rfl ?_
    refine s_aload_n 2 dX5_placeScenes_1 rfl rfl ?_
    refine s_getI 5 dX5_placeScenes_2 rfl fl_X5_48 (fun _ _ _ _ => rfl) (isP_sh hP) (isP_lt hP) (fun r_2 => ?_)
    rw [e4]
    refine s_icmp_lt 38 8 dX5_placeScenes_5 rfl rfl (by first | omega | exact bI_r _ | exact iI_r _) (by first | omega | exact bI_r _ | exact iI_r _) (fun h_5 => ?_) (fun h_5 => by exfalso; omega)
    refine s_iconst 39 dX5_placeScenes_38 rfl ?_
    refine s_istore (ls' := [_, _, _, _, _]) 41 dX5_placeScenes_39 rfl (Nat.le_of_ble_eq_true rfl) rfl rfl ?_
    exact loop 6 0 I (by omega) (by omega) (by omega) LoF.rf (by rw [show (0 : Int).toNat = 0 from rfl, show exK r m pre 0 = [] from rfl, List.append_nil]; exact hl)
  · have e : cnt = r 5 := by omega
    have hm : (r 5 - cnt).toNat = 0 := by omega
    rw [hm, show exF r 0 pre = [pre] from rfl] at h hn
    rw [List.length_append, List.length_singleton] at hn
    have e8 := hl.1
    have hpp : P ≠ P + 35 := by omega
    have ho1 := ho.1
    refine s_iload_n 1 dX5_placeScenes_0 rfl rfl ?_
    refine s_aload_n 2 dX5_placeScenes_1 rfl rfl ?_
    refine s_getI 5 dX5_placeScenes_2 rfl fl_X5_48 (fun _ _ _ _ => rfl) (isP_sh hP) (isP_lt hP) (fun r_2 => ?_)
    rw [e4]
    refine s_icmp_lt 38 8 dX5_placeScenes_5 rfl rfl (by first | omega | exact bI_r _ | exact iI_r _) (by first | omega | exact bI_r _ | exact iI_r _) (fun h_5 => by exfalso; omega) (fun h_5 => ?_)
    refine s_aload_n 9 dX5_placeScenes_8 rfl rfl ?_
    refine s_getI 12 dX5_placeScenes_9 rfl fl_X5_60 (fun _ _ _ _ => rfl) (isP_sh hP) (isP_lt hP) (fun r_9 => ?_)
    refine s_bipush 14 dX5_placeScenes_12 rfl (by decide) ?_
    rw [e8]
    refine s_icmp_ge 37 17 dX5_placeScenes_14 rfl rfl (by first | omega | exact bI_r _ | exact iI_r _) (by first | omega | exact bI_r _ | exact iI_r _) (fun h_14 => by exfalso; omega) (fun h_14 => ?_)
    refine s_aload_n 18 dX5_placeScenes_17 rfl rfl ?_
    refine s_getR 21 dX5_placeScenes_18 rfl fl_X5_32 (fun _ _ _ _ => rfl) (T_X5_orderList hT hP) (isP_sh hP) (isP_lt hP) ?_
    refine s_aload_n 22 dX5_placeScenes_21 rfl rfl ?_
    refine s_getI 25 dX5_placeScenes_22 rfl fl_X5_60 (fun _ _ _ _ => rfl) (isP_sh hP) (isP_lt hP) (fun r_22 => ?_)
    rw [e8]
    refine s_iload_n 26 dX5_placeScenes_25 rfl rfl ?_
    refine s_iast 27 dX5_placeScenes_26 rfl (shP_orderList hP) (ltP_orderList hP) (by omega) (by omega) (by first | omega | exact bI_r _ | exact iI_r _) ?_
    refine s_aload_n 28 dX5_placeScenes_27 rfl rfl ?_
    refine s_dup 29 dX5_placeScenes_28 rfl rfl ?_
    refine s_getI 32 dX5_placeScenes_29 rfl fl_X5_60 (fun _ _ _ _ => rfl) (isP_sh hP) (isP_lt hP) (fun r_29 => ?_)
    rw [up_ne hpp, e8]
    refine s_iconst 33 dX5_placeScenes_32 rfl ?_
    refine s_iadd 34 dX5_placeScenes_33 rfl ?_
    refine s_putI 37 dX5_placeScenes_34 rfl fl_X5_60 (fun _ => rfl) (fun _ => rfl) (fun _ _ _ _ => rfl) (isP_sh hP) (isP_lt hP) (by first | omega | exact bI_r _ | exact iI_r _) ?_
    refine s_vret dX5_placeScenes_37 rfl rfl ?_
    exact h _ ⟨fun c a b => by rw [up_ne a, up_ne b], fun k a => by rw [upn a, up_ne hpp]⟩ (hl.ap (by rw [← e]; exact ho))
set_option maxHeartbeats 4000000 in
theorem c_X5_listOrders {E : ET} {I : MI} {L : ML} {R : MR} {Q : Option AV → MI → ML → MR → Prop} {P : Nat} {r : F1} (hT : Topo R) (hP : isP P) (hr : WFr r) (hR : PR I P r) (h : ∀ I', LoF P I I' → OLs I' P r (ordL r) → Q none I' L R) : CT E M_X5_listOrders 161 yX5_listOrders [(vr (P))] I L R Q := by
  refine CT_of rfl rfl (fun h => by cases h) (Nat.le_of_ble_eq_true rfl) (fun X => ?_)
  show V X _ z0 0 [some (vr (P))] [] I L R _
  have e0 := hr.1
  have e5 := exF_ordL (r := r) hr.2.2.2.2.2
  have hlen := ordL_len (r := r) (by omega)
  have hf : LoF P I (up I P 8 0) := ⟨fun c a b => up_ne a, fun k a => upn a⟩
  have hl : OLs (up I P 8 0) P r [] := ⟨ups, fun j hj => by simp at hj⟩
  refine s_aload_n 1 dX5_listOrders_0 rfl rfl ?_
  refine s_iconst 2 dX5_listOrders_1 rfl ?_
  refine s_putI 5 dX5_listOrders_2 rfl fl_X5_60 (fun _ => rfl) (fun _ => rfl) (fun _ _ _ _ => rfl) (isP_sh hP) (isP_lt hP) (by first | omega | exact bI_r _ | exact iI_r _) ?_
  refine s_aload_n 6 dX5_listOrders_5 rfl rfl ?_
  refine s_iconst 7 dX5_listOrders_6 rfl ?_
  refine s_iconst 8 dX5_listOrders_7 rfl ?_
  refine s_iconst 9 dX5_listOrders_8 rfl ?_
  refine s_callV0 (M' := (M_X5_placeScenes 6)) (as := [_, _, _]) 12 dX5_listOrders_9 rfl cw_X5_90 rfl rfl (isP_sh hP) rfl (by decide) (isP_lt hP) (by first | exact Nat.le_of_ble_eq_true rfl | (simp only [mrk]; omega)) (Nat.le_of_ble_eq_true rfl) (Nat.le_of_ble_eq_true rfl) ⟨rfl, rfl, rfl⟩ ?_
  refine c_X5_placeScenes 6 (pre := []) (l := []) hT hP hr (hR.lo (by omega) hf) (by omega) rfl (by omega) (fun k k1 k2 => ⟨fun z => absurd z (has_0 ⟨k1, k2⟩), fun z => by simp at z⟩) (EnO.nil _) hl (by rw [show (r 5 - 0).toNat = (r 5).toNat by omega, e5, List.nil_append]; exact hlen) (fun I2 g1 g2 => ?_)
  rw [show (r 5 - 0).toNat = (r 5).toNat by omega, e5, List.nil_append] at g2
  refine s_vret dX5_listOrders_12 rfl rfl ?_
  exact h I2 (hf.tr g1) g2
