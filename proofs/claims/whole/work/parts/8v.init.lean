theorem sX0_z {k i : Nat} (h3 : k ≠ 3) (h7 : k ≠ 71) : sX0 k i = 0 := by
  unfold sX0
  rw [us_n h7, us_n h7]
  unfold uf
  rw [if_neg h3]
theorem rel_init : Rel sX0 sM0 := by
  have z0 : (0 : Int32) = nI 0 := nI_0.symm
  refine ⟨⟨rfl, rfl, fun f _ => rfl⟩, fun c _ => ⟨rfl, 0, by decide, z0⟩, ?_, ?_, ⟨⟨0, by omega, z0, z0, fun i hi => absurd hi (by omega)⟩, rfl, rfl, by decide, by decide⟩, ⟨0, by omega, z0, z0, fun i hi => absurd hi (by omega)⟩, ⟨0, by omega, z0, z0, fun i hi => absurd hi (by omega), fun i _ => b_0 i⟩, 0, ⟨by omega, z0, z0, fun w hw => absurd hw (by omega), fun w _ => ⟨rfl, Or.inl rfl⟩, fun w _ _ => rfl⟩, ?_, ⟨0, by omega, z0, z0, fun i hi => absurd hi (by omega)⟩⟩
  · intro s hs
    refine ⟨Or.inl ?_, fun j hj => ?_⟩
    · match s, hs with
      | 0, _ => exact ⟨rfl, rfl⟩
      | 1, _ => exact ⟨rfl, rfl⟩
      | 2, _ => exact ⟨rfl, rfl⟩
      | 3, _ => exact ⟨rfl, rfl⟩
    · rw [sX0_z (by omega) (by omega)]
      exact ⟨rfl, by unfold byt; decide⟩
  · intro l hl s hs
    refine ⟨fun u hu => ⟨0, by decide, by rw [sX0_z (by omega) (by omega)]; exact z0⟩, fun c hc => ⟨4, by omega, ?_, fun u hu => ?_⟩⟩
    · show (if 150 * l + 15 * s + c < 600 then (4 : Int32) else _) = nI 4
      rw [if_pos (by omega)]
      decide
    · rw [sX0_z (by omega) (by omega), b_0]
      have : ¬ u = 4 := by omega
      simp [this]
  · intro l hl
    exact ⟨0, by omega, by rw [sX0_z (by omega) (by omega)]; exact z0, z0, fun i hi => absurd hi (by omega), fun i j hi => absurd hi (by omega)⟩
