/-! the memory at the law's first row of the script -/
def Ist : MI := setQ (iX12 138 (setQ (iX11 0 (setQ (fun _ _ => 0) 0 (fun _ => 0))) 138 (fun _ => 0))) 160 (fun _ => 0)
def Lst : ML := setQ (lX12 138 (setQ (lX11 0 (setQ (fun _ _ => 0) 0 (fun _ => 0))) 138 (fun _ => 0))) 160 (fun _ => 0)
def Rst : MR := setQ (rX12 138 (setQ (rX11 0 (setQ (fun _ _ => none) 0 (fun _ => none))) 138 (fun _ => none))) 160 (fun _ => none)
theorem Rst_all : TOPO.all (fun t => Rst t.1 t.2.1 == some t.2.2) = true := by decide +kernel
theorem Topo_st : Topo Rst := fun a k b h => by
  have := List.all_eq_true.mp Rst_all (a, k, b) h
  simpa using this
theorem CV_st : CV Ist Lst Rst 0 (fun _ => 0) 0 0 (-1) 0 False (fun _ => 0) (fun _ => 0) [] [] [] [] 3 39 := by
  refine ⟨⟨Or.inl rfl, Or.inr rfl, by decide, by decide +kernel, by decide +kernel, by decide +kernel, by decide +kernel, by decide +kernel, by decide +kernel⟩, ⟨rfl, by decide, fun k _ _ => rfl, rfl, rfl, fun z => absurd z (by decide)⟩, ⟨⟨rfl, rfl, rfl, rfl, rfl, rfl, rfl, rfl⟩, ⟨rfl, rfl, rfl⟩, fun p a b => ?_, fun p a b => ?_, fun p a b => ?_, fun p a b => ?_, fun s _ _ => rfl, fun p _ _ => rfl⟩, ⟨EnO.nil _, GvO.z (fun _ _ _ => rfl), rfl⟩, ⟨⟨rfl, fun j hj => absurd hj (by simp)⟩, ⟨rfl, fun j hj => absurd hj (by simp)⟩, ⟨rfl, fun j hj => absurd hj (by simp)⟩, by decide, by decide⟩, (by unfold CvS; decide +kernel), fun z => z.elim, fun _ => ⟨fun _ _ _ => rfl, fun _ _ _ => rfl⟩⟩
  all_goals (have b : p < 0 := b; omega)
theorem MV_st : MV Ist (fun _ => 0) 0 0 (-1) 0 False (fun _ => 0) (fun _ => 0) [] [] [] := by
  refine ⟨⟨rfl, fun k _ _ => rfl, rfl, rfl, rfl, ?_⟩, rfl, rfl, rfl, ⟨rfl, rfl⟩, ⟨rfl, rfl⟩, rfl, rfl⟩
  rw [bI_f id]; rfl
