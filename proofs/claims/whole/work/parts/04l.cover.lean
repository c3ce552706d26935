/-! FEWEST by all sets, from the least upwards -/
theorem sub_le {s o : Int} (hs : 0 ≤ s ∧ s ≤ 127) (h : sub o s) : 0 ≤ o ∧ o ≤ s := by
  have h1 := h
  unfold sub at h1
  have h2 := set_lt (x := o) (n := 7) (by omega) (by rw [← h1]; exact iand_r _ _) (fun k k1 k2 k3 => by
    rw [← h1, has_and (by omega)] at k3
    exact has_lt (n := 7) (by omega) (by omega) ⟨k1, k2⟩ k3.2)
  by_cases ho : o = 0
  · omega
  · have := (sub_next hs ⟨by omega, by omega⟩ h).2.2.2.2.2.1
    omega
theorem chk_self {s : Int} (hs : 0 ≤ s ∧ s ≤ 127) : sub s s := set_ext (iand_r _ _) (by omega) (fun k a b => by rw [has_and ⟨a, b⟩]; exact ⟨fun z => z.1, fun z => ⟨z, z⟩⟩)
def Blk (G : Int → Prop) (s o : Int) : Prop := 0 < o ∧ sub o s ∧ iand o (lowI s) ≠ 0 ∧ G o
def CovV (G : Int → Prop) (s v : Int) : Prop := (v = 1000000 ∧ ∀ m, ¬ Spl G m s) ∨ (0 ≤ v ∧ v ≤ s ∧ Spl G v.toNat s ∧ ∀ m : Nat, (m : Int) < v → ¬ Spl G m s)
def PC (K : Int → Prop) (G : Int → Prop) (s c : Int) : Prop := (c = 1000000 ∧ ∀ o, K o → Blk G s o → ∀ m, ¬ Spl G m (andN s o)) ∨ (1 ≤ c ∧ c ≤ s ∧ (∃ o, K o ∧ Blk G s o ∧ Spl G (c - 1).toNat (andN s o)) ∧ ∀ o, K o → Blk G s o → ∀ m : Nat, Spl G m (andN s o) → c - 1 ≤ m)
theorem PC.mo {K K' : Int → Prop} {G : Int → Prop} {s c : Int} (h : PC K G s c) (hK : ∀ o, Blk G s o → (K' o ↔ K o)) : PC K' G s c := by
  rcases h with ⟨a, b⟩ | ⟨a, b, ⟨o, o1, o2, o3⟩, d⟩
  · exact Or.inl ⟨a, fun o k l => b o ((hK o l).mp k) l⟩
  · exact Or.inr ⟨a, b, ⟨o, (hK o o2).mpr o1, o2, o3⟩, fun o k l => d o ((hK o l).mp k) l⟩
theorem PC.keep {K K' : Int → Prop} {G : Int → Prop} {s c d o : Int} (h : PC K G s c) (hK : ∀ x, K' x ↔ (K x ∨ x = o)) (hd : CovV G (andN s o) d) (hb : andN s o < s ∧ s ≤ 127) (hc : ¬ d + 1 < c) : PC K' G s c := by
  rcases h with ⟨a, b⟩ | ⟨a, b, ⟨p, o1, o2, o3⟩, e⟩
  · refine Or.inl ⟨a, fun x k l => ?_⟩
    rcases (hK x).mp k with z | z
    · exact b x z l
    · subst z
      rcases hd with ⟨d1, d2⟩ | ⟨d1, d2, d3, d4⟩
      · exact d2
      · omega
  · refine Or.inr ⟨a, b, ⟨p, (hK p).mpr (Or.inl o1), o2, o3⟩, fun x k l m hm => ?_⟩
    rcases (hK x).mp k with z | z
    · exact e x z l m hm
    · subst z
      rcases hd with ⟨d1, d2⟩ | ⟨d1, d2, d3, d4⟩
      · exact absurd hm (d2 m)
      · rcases Int.lt_or_le (m : Int) d with q | q
        · exact absurd hm (d4 m q)
        · omega
theorem PC.skip {K K' : Int → Prop} {G : Int → Prop} {s c o : Int} (h : PC K G s c) (hK : ∀ x, K' x ↔ (K x ∨ x = o)) (hn : ¬ Blk G s o) : PC K' G s c := by
  refine h.mo (fun x hx => ?_)
  rw [hK x]
  exact ⟨fun z => z.elim id (fun e => absurd (e ▸ hx) hn), Or.inl⟩
theorem PC.new {K K' : Int → Prop} {G : Int → Prop} {s c d o : Int} (h : PC K G s c) (hK : ∀ x, K' x ↔ (K x ∨ x = o)) (ho : Blk G s o) (hd : CovV G (andN s o) d) (hb : andN s o < s ∧ s ≤ 127) (hc : d + 1 < c) : PC K' G s (d + 1) := by
  have hc1 : c ≤ 1000000 := by
    rcases h with ⟨a, b⟩ | ⟨a, b, _⟩ <;> omega
  rcases hd with ⟨d1, d2⟩ | ⟨d1, d2, d3, d4⟩
  · omega
  · refine Or.inr ⟨by omega, by omega, ⟨o, (hK o).mpr (Or.inr rfl), ho, by rw [show d + 1 - 1 = d by omega]; exact d3⟩, fun x k l m hm => ?_⟩
    rcases (hK x).mp k with z | z
    · rcases h with ⟨a, b⟩ | ⟨a, b, _, e⟩
      · exact absurd hm (b x z l m)
      · have := e x z l m hm
        omega
    · subst z
      rcases Int.lt_or_le (m : Int) d with q | q
      · exact absurd hm (d4 m q)
      · omega
theorem PC.fin {G : Int → Prop} {s c : Int} (hs : 0 < s ∧ s ≤ 127) (h : PC (fun x => 0 < x) G s c) : CovV G s c := by
  have sp : ∀ {m : Nat}, Spl G m s → ∃ k o, m = k + 1 ∧ Blk G s o ∧ Spl G k (andN s o) := by
    intro m hm
    cases m with
    | zero => exact absurd hm (show ¬ s = 0 by omega)
    | succ k =>
      rcases hm with z | ⟨o, a, b, d, e, f, g⟩
      · omega
      · exact ⟨k, o, rfl, ⟨a, d, e, f⟩, g⟩
  rcases h with ⟨a, b⟩ | ⟨a, b, ⟨o, o1, o2, o3⟩, e⟩
  · refine Or.inl ⟨a, fun m hm => ?_⟩
    obtain ⟨k, o, -, h2, h3⟩ := sp hm
    exact b o h2.1 h2 k h3
  · have ho : o ≤ 127 := by have := sub_le (by omega) o2.2.1; omega
    refine Or.inr ⟨by omega, b, ?_, fun m hm hq => ?_⟩
    · rw [show c.toNat = (c - 1).toNat + 1 by omega]
      exact Or.inr ⟨o, o1, ho, o2.2.1, o2.2.2.1, o2.2.2.2, o3⟩
    · obtain ⟨k, x, h1, h2, h3⟩ := sp hq
      have := e x h2.1 h2 k h3
      omega
theorem CovV.spl {G : Int → Prop} {s c : Int} (h : CovV G s c) (hs : s ≤ 127) : SplV G s (if c ≥ 1000000 then -2 else c) := by
  rcases h with ⟨a, b⟩ | ⟨a, b, d, e⟩
  · rw [if_pos (by omega)]; exact Or.inl ⟨rfl, b⟩
  · rw [if_neg (by omega)]; exact Or.inr ⟨a, d, e⟩
set_option maxHeartbeats 4000000 in
theorem c_X12_fewestOf {E : ET} {I : MI} {L : ML} {R : MR} {Q : Option AV → MI → ML → MR → Prop} {G : Int → Prop} {A : Int} (hT : Topo R) (ey : ∀ s, 0 ≤ s → s ≤ A → I 153 s = bI (G s)) (hA : 0 ≤ A ∧ A ≤ 127) (h : ∀ I', Eqo [154] I I' → -2 ≤ splV G A ∧ splV G A ≤ 127 → Q (some (vi (splV G A))) I' L R) : CT E M_X12_fewestOf 161 yX12_fewestOf [(vr (138)), (vi (A))] I L R Q := by
  refine CT_of rfl rfl (fun h => by cases h) (Nat.le_of_ble_eq_true rfl) (fun X => ?_)
  show V X _ z0 0 [some (vr (138)), some (vi (A)), none, none, none] [] I L R _
  have loop : ∀ (f : Nat) (s : Int) (w3 w4 : Option AV) (I1 : MI), A + 1 - s < (f : Int) → 1 ≤ s → s ≤ A + 1 → Eqo [154] I I1 → (∀ x, 0 ≤ x → x < s → CovV G x (I1 154 x)) →
      V X M_X12_fewestOf z0 9 [some (vr 138), some (vi A), some (vi s), w3, w4] [] I1 L R (RT X M_X12_fewestOf Q) := by
    intro f
    induction f with
    | zero => intro s w3 w4 I1 h1 h2 h3; omega
    | succ f ih =>
      intro s w3 w4 I1 h1 h2 h3 h4 h5
      have inn : ∀ (f2 : Nat) (o : Int) (I1 : MI), o < (f2 : Int) → 0 ≤ o → o ≤ s → s ≤ A → sub o s → Eqo [154] I I1 → (∀ x, 0 ≤ x → x < s → CovV G x (I1 154 x)) → PC (fun x => o < x) G s (I1 154 s) →
          V X M_X12_fewestOf z0 31 [some (vr (138)), some (vi (A)), some (vi (s)), some (vi (lowI s)), some (vi (o))] [] (I1) L R (RT X M_X12_fewestOf Q) := by
        intro f2
        induction f2 with
        | zero => intro o I1 k1 k2; omega
        | succ f2 ih2 =>
          intro o I1 k1 k2 k3 k4 k5 k6 k7 k8
          by_cases ho : o = 0
          · subst ho
            refine s_iload 33 dX12_fewestOf_31 rfl rfl ?_
            refine s_if_le 105 36 dX12_fewestOf_33 rfl rfl (by first | omega | exact bI_r _ | exact iI_r _) (fun h_33 => ?_) (fun h_33 => by exfalso; omega)
            refine s_iinc (ls' := [_, _, _, _, _]) 108 dX12_fewestOf_105 rfl rfl (Nat.le_of_ble_eq_true rfl) rfl rfl ?_
            refine s_goto 9 dX12_fewestOf_108 rfl ?_
            refine ih (s + 1) _ _ I1 (by omega) (by omega) (by omega) k6 (fun x a b => ?_)
            by_cases ex : x = s
            · rw [ex]; exact k8.fin (by omega)
            · exact k7 x a (by omega)
          · obtain ⟨n1, n2, n3, n4, n5, n6, n7⟩ := sub_next (s := s) (o := o) (by omega) (by omega) k5
            have e53 : I1 153 o = bI (G o) := by rw [k6 153 (by decide)]; exact ey o (by omega) (by omega)
            have hd := k7 (andN s o) n5 n4
            have hir := iand_r o (lowI s)
            have b94 : ∀ (I2 : MI), Eqo [154] I I2 → (∀ x, 0 ≤ x → x < s → CovV G x (I2 154 x)) → PC (fun x => o ≤ x) G s (I2 154 s) → V X M_X12_fewestOf z0 94 [some (vr (138)), some (vi (A)), some (vi (s)), some (vi (lowI s)), some (vi (o))] [] (I2) L R (RT X M_X12_fewestOf Q) := by
              intro I2 j1 j2 j3
              refine s_iload 96 dX12_fewestOf_94 rfl rfl ?_
              refine s_iconst 97 dX12_fewestOf_96 rfl ?_
              refine s_isub 98 dX12_fewestOf_97 rfl ?_
              refine s_iload_n 99 dX12_fewestOf_98 rfl rfl ?_
              refine s_iand 100 dX12_fewestOf_99 rfl ?_
              refine s_istore (ls' := [_, _, _, _, _]) 102 dX12_fewestOf_100 rfl (Nat.le_of_ble_eq_true rfl) rfl rfl ?_
              refine s_goto 31 dX12_fewestOf_102 rfl ?_
              refine ih2 _ I2 (by omega) n1 (by omega) k4 n3 j1 j2 (j3.mo (fun x hx => ⟨fun z => ?_, fun z => ?_⟩))
              · apply Classical.byContradiction
                intro q
                have := n7 x (by have := hx.1; omega) (by omega) hx.2.1
                omega
              · omega
            have kb : ∀ x, (o ≤ x ↔ (o < x ∨ x = o)) := fun x => by omega
            have hdn : I1 154 (iand s (ixor o (-1))) = I1 154 (andN s o) := rfl
            have hdb : 0 ≤ I1 154 (andN s o) ∧ I1 154 (andN s o) ≤ 1000000 := by rcases hd with ⟨a, b⟩ | ⟨a, b, _⟩ <;> omega
            have n94 : iand o (lowI s) ≠ 0 → G o → I1 154 (andN s o) + 1 < I1 154 s → V X M_X12_fewestOf z0 94 [some (vr (138)), some (vi (A)), some (vi (s)), some (vi (lowI s)), some (vi (o))] [] (up I1 154 s (I1 154 (andN s o) + 1)) L R (RT X M_X12_fewestOf Q) := by
              intro j1 j2 j3
              have hB : Blk G s o := ⟨by omega, k5, j1, j2⟩
              refine b94 _ (k6.st (by decide)) (fun x a b => ?_) ?_
              · rw [upn (by omega)]; exact k7 x a b
              · rw [ups]; exact k8.new kb hB hd ⟨n4, by omega⟩ j3
            refine s_iload 33 dX12_fewestOf_31 rfl rfl ?_
            refine s_if_le 105 36 dX12_fewestOf_33 rfl rfl (by first | omega | exact bI_r _ | exact iI_r _) (fun h_33 => by exfalso; omega) (fun h_33 => ?_)
            refine s_iload 38 dX12_fewestOf_36 rfl rfl ?_
            refine s_iload_n 39 dX12_fewestOf_38 rfl rfl ?_
            refine s_iand 40 dX12_fewestOf_39 rfl ?_
            refine s_if_eq 94 43 dX12_fewestOf_40 rfl rfl (by first | omega | exact bI_r _ | exact iI_r _) (fun h_40 => ?_) (fun h_40 => ?_)
            · skip
              first | exact b94 I1 k6 k7 (k8.skip kb (fun z => z.2.2.1 (by assumption))) | exact b94 I1 k6 k7 (k8.skip kb (fun z => absurd z.2.2.2 (by assumption))) | exact b94 I1 k6 k7 (k8.keep kb hd ⟨n4, by omega⟩ (by omega)) | exact n94 (by assumption) (by assumption) (by omega)
            refine s_aload_n 44 dX12_fewestOf_43 rfl rfl ?_
            refine s_getR 47 dX12_fewestOf_44 rfl fl_X12_59 (fun _ _ _ _ => rfl) (T_X12_may hT) sh_138 (Nat.le_of_ble_eq_true rfl) ?_
            refine s_iload 49 dX12_fewestOf_47 rfl rfl ?_
            refine s_zald 50 dX12_fewestOf_49 rfl sh_153 (Nat.le_of_ble_eq_true rfl) ⟨by first | omega | exact n5, by first | omega | exact (Int.lt_of_lt_of_le n4 (by omega))⟩ (by omega) (fun r_49 => ?_)
            rw [e53] at r_49 ⊢
            refine s_ifb_eq 94 53 dX12_fewestOf_50 rfl rfl (fun h_50 => ?_) (fun h_50 => ?_)
            · skip
              first | exact b94 I1 k6 k7 (k8.skip kb (fun z => z.2.2.1 (by assumption))) | exact b94 I1 k6 k7 (k8.skip kb (fun z => absurd z.2.2.2 (by assumption))) | exact b94 I1 k6 k7 (k8.keep kb hd ⟨n4, by omega⟩ (by omega)) | exact n94 (by assumption) (by assumption) (by omega)
            refine s_aload_n 54 dX12_fewestOf_53 rfl rfl ?_
            refine s_getR 57 dX12_fewestOf_54 rfl fl_X12_63 (fun _ _ _ _ => rfl) (T_X12_covers hT) sh_138 (Nat.le_of_ble_eq_true rfl) ?_
            refine s_iload_n 58 dX12_fewestOf_57 rfl rfl ?_
            refine s_iload 60 dX12_fewestOf_58 rfl rfl ?_
            refine s_iconst 61 dX12_fewestOf_60 rfl ?_
            refine s_ixor 62 dX12_fewestOf_61 rfl ?_
            refine s_iand 63 dX12_fewestOf_62 rfl ?_
            refine s_iald 64 dX12_fewestOf_63 rfl sh_154 (Nat.le_of_ble_eq_true rfl) ⟨by first | omega | exact n5, by first | omega | exact (Int.lt_of_lt_of_le n4 (by omega))⟩ (by omega) (fun r_63 => ?_)
            rw [show I1 154 (iand s (ixor o (-1))) = I1 154 (andN s o) from rfl] at r_63 ⊢
            refine s_iconst 65 dX12_fewestOf_64 rfl ?_
            refine s_iadd 66 dX12_fewestOf_65 rfl ?_
            refine s_aload_n 67 dX12_fewestOf_66 rfl rfl ?_
            refine s_getR 70 dX12_fewestOf_67 rfl fl_X12_63 (fun _ _ _ _ => rfl) (T_X12_covers hT) sh_138 (Nat.le_of_ble_eq_true rfl) ?_
            refine s_iload_n 71 dX12_fewestOf_70 rfl rfl ?_
            refine s_iald 72 dX12_fewestOf_71 rfl sh_154 (Nat.le_of_ble_eq_true rfl) ⟨by first | omega | exact n5, by first | omega | exact (Int.lt_of_lt_of_le n4 (by omega))⟩ (by omega) (fun r_71 => ?_)
            refine s_icmp_ge 94 75 dX12_fewestOf_72 rfl rfl (by first | omega | exact bI_r _ | exact iI_r _) (by first | omega | exact bI_r _ | exact iI_r _) (fun h_72 => ?_) (fun h_72 => ?_)
            · skip
              first | exact b94 I1 k6 k7 (k8.skip kb (fun z => z.2.2.1 (by assumption))) | exact b94 I1 k6 k7 (k8.skip kb (fun z => absurd z.2.2.2 (by assumption))) | exact b94 I1 k6 k7 (k8.keep kb hd ⟨n4, by omega⟩ (by omega)) | exact n94 (by assumption) (by assumption) (by omega)
            refine s_aload_n 76 dX12_fewestOf_75 rfl rfl ?_
            refine s_getR 79 dX12_fewestOf_76 rfl fl_X12_63 (fun _ _ _ _ => rfl) (T_X12_covers hT) sh_138 (Nat.le_of_ble_eq_true rfl) ?_
            refine s_iload_n 80 dX12_fewestOf_79 rfl rfl ?_
            refine s_aload_n 81 dX12_fewestOf_80 rfl rfl ?_
            refine s_getR 84 dX12_fewestOf_81 rfl fl_X12_63 (fun _ _ _ _ => rfl) (T_X12_covers hT) sh_138 (Nat.le_of_ble_eq_true rfl) ?_
            refine s_iload_n 85 dX12_fewestOf_84 rfl rfl ?_
            refine s_iload 87 dX12_fewestOf_85 rfl rfl ?_
            refine s_iconst 88 dX12_fewestOf_87 rfl ?_
            refine s_ixor 89 dX12_fewestOf_88 rfl ?_
            refine s_iand 90 dX12_fewestOf_89 rfl ?_
            refine s_iald 91 dX12_fewestOf_90 rfl sh_154 (Nat.le_of_ble_eq_true rfl) ⟨by first | omega | exact n5, by first | omega | exact (Int.lt_of_lt_of_le n4 (by omega))⟩ (by omega) (fun r_90 => ?_)
            rw [show I1 154 (iand s (ixor o (-1))) = I1 154 (andN s o) from rfl] at r_90 ⊢
            refine s_iconst 92 dX12_fewestOf_91 rfl ?_
            refine s_iadd 93 dX12_fewestOf_92 rfl ?_
            refine s_iast 94 dX12_fewestOf_93 rfl sh_154 (Nat.le_of_ble_eq_true rfl) ⟨by first | omega | exact n5, by first | omega | exact (Int.lt_of_lt_of_le n4 (by omega))⟩ (by omega) (by first | omega | exact bI_r _ | exact iI_r _) ?_
            first | exact b94 I1 k6 k7 (k8.skip kb (fun z => z.2.2.1 (by assumption))) | exact b94 I1 k6 k7 (k8.skip kb (fun z => absurd z.2.2.2 (by assumption))) | exact b94 I1 k6 k7 (k8.keep kb hd ⟨n4, by omega⟩ (by omega)) | exact n94 (by assumption) (by assumption) (by omega)
      have fin : s = A + 1 → ∀ w3 w4, V X M_X12_fewestOf z0 111 [some (vr 138), some (vi A), some (vi s), w3, w4] [] I1 L R (RT X M_X12_fewestOf Q) := by
        intro es w3 w4
        have hF := (h5 A (by omega) (by omega)).spl (by omega)
        have hE := hF.v
        have hC := h5 A (by omega) (by omega)
        have hR : -2 ≤ splV G A ∧ splV G A ≤ 127 := by
          rw [hE]
          rcases hC with ⟨a, b⟩ | ⟨a, b, _⟩
          · rw [if_pos (by omega)]; omega
          · rw [if_neg (by omega)]; omega
        refine s_aload_n 112 dX12_fewestOf_111 rfl rfl ?_
        refine s_getR 115 dX12_fewestOf_112 rfl fl_X12_63 (fun _ _ _ _ => rfl) (T_X12_covers hT) sh_138 (Nat.le_of_ble_eq_true rfl) ?_
        refine s_iload_n 116 dX12_fewestOf_115 rfl rfl ?_
        refine s_iald 117 dX12_fewestOf_116 rfl sh_154 (Nat.le_of_ble_eq_true rfl) (by omega) (by omega) (fun r_116 => ?_)
        refine s_ldcw 120 dX12_fewestOf_117 rfl _ ck_X12_385 ?_
        refine s_icmp_lt 128 123 dX12_fewestOf_120 rfl rfl (by first | omega | exact bI_r _ | exact iI_r _) (by first | omega | exact bI_r _ | exact iI_r _) (fun h_120 => ?_) (fun h_120 => ?_)
        · skip
          refine s_aload_n 129 dX12_fewestOf_128 rfl rfl ?_
          refine s_getR 132 dX12_fewestOf_129 rfl fl_X12_63 (fun _ _ _ _ => rfl) (T_X12_covers hT) sh_138 (Nat.le_of_ble_eq_true rfl) ?_
          refine s_iload_n 133 dX12_fewestOf_132 rfl rfl ?_
          refine s_iald 134 dX12_fewestOf_133 rfl sh_154 (Nat.le_of_ble_eq_true rfl) (by omega) (by omega) (fun r_133 => ?_)
          refine s_iret dX12_fewestOf_134 rfl rfl ?_
          first | (rw [if_pos (by omega)] at hE; rw [← hE]; exact h I1 h4 hR) | (rw [if_neg (by omega)] at hE; rw [← hE]; exact h I1 h4 hR)
        refine s_bipush 125 dX12_fewestOf_123 rfl (by decide) ?_
        refine s_goto 134 dX12_fewestOf_125 rfl ?_
        refine s_iret dX12_fewestOf_134 rfl rfl ?_
        first | (rw [if_pos (by omega)] at hE; rw [← hE]; exact h I1 h4 hR) | (rw [if_neg (by omega)] at hE; rw [← hE]; exact h I1 h4 hR)
      refine s_iload_n 10 dX12_fewestOf_9 rfl rfl ?_
      refine s_iload_n 11 dX12_fewestOf_10 rfl rfl ?_
      refine s_icmp_gt 111 14 dX12_fewestOf_11 rfl rfl (by first | omega | exact bI_r _ | exact iI_r _) (by first | omega | exact bI_r _ | exact iI_r _) (fun h_11 => ?_) (fun h_11 => ?_)
      · skip
        exact fin (by omega) _ _
      skip
      have hlow := low_ok (s := s) (by omega)
      refine s_aload_n 15 dX12_fewestOf_14 rfl rfl ?_
      refine s_getR 18 dX12_fewestOf_15 rfl fl_X12_63 (fun _ _ _ _ => rfl) (T_X12_covers hT) sh_138 (Nat.le_of_ble_eq_true rfl) ?_
      refine s_iload_n 19 dX12_fewestOf_18 rfl rfl ?_
      refine s_ldcw 22 dX12_fewestOf_19 rfl _ ck_X12_385 ?_
      refine s_iast 23 dX12_fewestOf_22 rfl sh_154 (Nat.le_of_ble_eq_true rfl) (by omega) (by omega) (by first | omega | exact bI_r _ | exact iI_r _) ?_
      refine s_iload_n 24 dX12_fewestOf_23 rfl rfl ?_
      refine s_iload_n 25 dX12_fewestOf_24 rfl rfl ?_
      refine s_ineg 26 dX12_fewestOf_25 rfl ?_
      refine s_iand 27 dX12_fewestOf_26 rfl ?_
      refine s_istore_n (ls' := [_, _, _, _, _]) 28 dX12_fewestOf_27 rfl (Nat.le_of_ble_eq_true rfl) rfl rfl ?_
      refine s_iload_n 29 dX12_fewestOf_28 rfl rfl ?_
      refine s_istore (ls' := [_, _, _, _, _]) 31 dX12_fewestOf_29 rfl (Nat.le_of_ble_eq_true rfl) rfl rfl ?_
      refine inn (s + 1).toNat s _ (by omega) (by omega) (by omega) (by omega) ?_ (h4.st (by decide)) (fun x a b => ?_) ?_
      · unfold sub; exact (chk_self (by omega))
      · rw [upn (by omega)]; exact h5 x a b
      · rw [ups]; exact Or.inl ⟨rfl, fun o z hb => absurd (sub_le (by omega) hb.2.1) (by omega)⟩
  refine s_aload_n 1 dX12_fewestOf_0 rfl rfl ?_
  refine s_getR 4 dX12_fewestOf_1 rfl fl_X12_63 (fun _ _ _ _ => rfl) (T_X12_covers hT) sh_138 (Nat.le_of_ble_eq_true rfl) ?_
  refine s_iconst 5 dX12_fewestOf_4 rfl ?_
  refine s_iconst 6 dX12_fewestOf_5 rfl ?_
  refine s_iast 7 dX12_fewestOf_6 rfl sh_154 (Nat.le_of_ble_eq_true rfl) (by omega) (by omega) (by first | omega | exact bI_r _ | exact iI_r _) ?_
  refine s_iconst 8 dX12_fewestOf_7 rfl ?_
  refine s_istore_n (ls' := [_, _, _, _, _]) 9 dX12_fewestOf_8 rfl (Nat.le_of_ble_eq_true rfl) rfl rfl ?_
  refine loop (A + 2).toNat 1 none none _ (by omega) (by omega) (by omega) (Eqo.rf.st (by decide)) (fun x a b => ?_)
  rw [show x = 0 by omega, ups]
  exact Or.inr ⟨by omega, by omega, rfl, fun m hm => by omega⟩
