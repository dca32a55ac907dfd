/-! EACH SIDE KEEPS THE OTHER -/
theorem Ms.fc {G : xG} {h h2 : xh} {x : Nat} {a : Ab} (k : Ms G h (x + 35) a) (f : Fc x (x + 68) h h2) : Ms G h2 (x + 35) a := by
  obtain ⟨I, A, hM, hR⟩ := k
  have hk : ∀ b, At (x + 35) 33 b → h2.1 b = h.1 b := fun b z => f.2 b (by unfold At at z; omega) (by unfold At at *; omega)
  exact ⟨I, A, ⟨(hk _ ⟨by omega, by omega⟩).trans hM.1, fun j hj => (hk _ ⟨by omega, by omega⟩).trans (hM.2 j hj)⟩, hR⟩
theorem Cs.mf {G : xG} {h h2 : xh} {x : Nat} {a : Ab} (k : Cs G h x (x + 68) a) (hfr : Mf (x + 35) h h2) : Cs G h2 x (x + 68) a := by
  obtain ⟨u, km, src, lat, ⟨fo, pa, ze, ra, sr⟩, ch⟩ := a
  obtain ⟨la, s1, s2, hO, hul, hmu, ⟨f, hf, hfu⟩, hFt, hPt, hZt, hRt, hSx, hCn, hSr, hsl, hpm, hLa, ⟨w1, hS1⟩, ⟨w2, hS2⟩, hxd, hdh⟩ := k
  dsimp only at hO hul hmu hfu hFt hPt hZt hRt hSx hCn hSr hsl hLa
  exact ⟨la, s1, s2, hfr.at (by unfold isR At at *; omega) hO, hul, hmu, ⟨f, hfr.at (by unfold isR At at *; omega) hf, hfu⟩, hFt.fr hfr (fun b z1 z2 => by unfold isR At at *; omega), hPt.fr hfr (fun b z1 z2 => by unfold isR At at *; omega), hZt.fr hfr (fun b z1 z2 => by unfold isR At at *; omega), hRt.fr hfr (fun b z1 z2 => by unfold isR At at *; omega), hSx.fr hfr (fun b z1 z2 => by unfold isR At at *; omega) (fun b z => by unfold isR At at *; omega), hCn.fr hfr (by unfold isR At at *; omega) (fun b z => by unfold isR At at *; omega), hSr.fr hfr (fun b z1 z2 => by unfold isR At at *; omega), hsl, hpm, hLa.fr hfr (fun b z1 z2 => by unfold isR At at *; omega), ⟨w1, hS1.fr hfr (fun b z1 z2 => by unfold isR At at *; omega)⟩, ⟨w2, hS2.fr hfr (fun b z1 z2 => by unfold isR At at *; omega)⟩, hxd, (Nat.le_trans hdh (Nat.le_of_eq hfr.1.symm))⟩
/-- the empty state -/
def a0 : Ab := ([], 0, [], [], ([], [], [], [], []), List.replicate 8 none)
theorem Ms.zero {G : xG} {h : xh} {o : Nat} (hM : MO G h o (fun _ => 0) (fun _ _ => 0)) : Ms G h o a0 :=
  ⟨_, _, hM, ⟨rfl, Nat.zero_le _, fL_nil _, rfl, Nat.le_refl _⟩, ⟨rfl, Nat.zero_le _, fL_nil _, fL_nil _, fL_nil _⟩, ⟨rfl, Nat.zero_le _, List.nodup_nil, fun _ z => absurd z (List.not_mem_nil), fL_nil _, fL_nil _, fun i w z => by simp [a0] at z⟩, ⟨rfl, Nat.zero_le _, List.nodup_nil, fL_nil _, fL_nil _, fL_nil _⟩, ⟨rfl, Nat.zero_le _, fL_nil _, fun _ z => absurd z (List.not_mem_nil)⟩, ⟨rfl, Nat.zero_le _, fL_nil _, fL_nil _⟩, ⟨rfl, Nat.zero_le _, List.nodup_nil, fun i w z => by simp [a0] at z⟩, ⟨rfl, fun _ _ => rfl, fun y fi z => by have := List.mem_replicate.mp (List.mem_of_getElem? z); exact absurd this.2 (by simp)⟩, ⟨rfl, Nat.zero_le _, fL_nil _, fL_nil _, fL_nil _⟩⟩
