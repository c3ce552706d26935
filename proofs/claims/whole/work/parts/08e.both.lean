/-! class and reference together -/
theorem CV.pl {I : MI} {L : ML} {R : MR} {m : Int} {bt : F1} {n ft pl pl' w : Int} {HP : Prop} {r s : F1} {a : List Int} {U D K : List (List Int)} {P P' : Nat} (h : CV I L R m bt n ft pl w HP r s a U D K P P') (hw : w ≠ 4) : CV I L R m bt n ft pl' w HP r s a U D K P P' := by
  obtain ⟨t, ⟨a1, a2, a3, a4, a5, a6⟩, x⟩ := h
  exact ⟨t, ⟨a1, a2, a3, a4, a5, fun z => absurd z hw⟩, x⟩
/-- what holds between two rows of the script -/
def Jb (I : MI) (L : ML) (R : MR) (m : Int) : Prop := ∃ (bt : F1) (n ft pl w : Int) (HP : Prop) (r s : F1) (a : List Int) (U D K : List (List Int)) (P P' : Nat), Topo R ∧ CV I L R m bt n ft pl w HP r s a U D K P P' ∧ MV I bt n ft pl w HP r s U D K ∧ Nrm bt
theorem Jb.st : Jb Ist Lst Rst 0 := ⟨_, _, _, _, _, _, _, _, _, _, _, _, _, _, Topo_st, CV_st, MV_st, fun _ _ => rfl, fun _ => ⟨Int.le_refl 0, (by decide : (0 : Int) ≤ 255)⟩⟩
theorem CV.ul {I : MI} {L : ML} {R : MR} {m : Int} {bt : F1} {n ft pl w : Int} {HP : Prop} {r s : F1} {a : List Int} {U D K : List (List Int)} {P P' : Nat} (h : CV I L R m bt n ft pl w HP r s a U D K P P') : U.length + D.length ≤ 12 ∧ K.length ≤ 3 := ⟨h.2.2.2.2.1.2.2.2.1, h.2.2.2.2.1.2.2.2.2⟩
/-- the class has answered, then the reference -/
theorem Jb.q {I1 I2 : MI} {L : ML} {R : MR} {m m' : Int} {bt : F1} {n ft pl w w' : Int} {HP : Prop} {r s : F1} {a : List Int} {U D K : List (List Int)} {P P' : Nat} (hT : Topo R) (hN : Nrm bt) (h1 : CV I1 L R m' bt n ft pl w' HP r s a U D K P P') (h2 : MV I1 bt n ft pl w HP r s U D K) (e : Eqo MS (gd I1 w') I2) (hm : m' ≤ m + 8) : Jb I2 L R (m + 8) := ⟨_, _, _, _, _, _, _, _, _, _, _, _, _, _, hT, (h1.mo hm).lo (Lo.gd e), h2.q e, hN⟩
