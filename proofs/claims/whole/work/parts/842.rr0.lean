/-! the memory at the start -/
theorem σ0_z {i k : Nat} (h1 : ¬ (kd i = 0 ∧ k = 5)) (h2 : ¬ (kd i = 6 ∧ k = 4)) (h3 : ¬ (i = 162 ∧ k = 7)) (h4 : ¬ (i = 198 ∧ k = 9)) (h5 : ¬ (i = 199 ∧ k = 2)) : σ0 i k = 0 := by
  unfold σ0
  rw [if_neg h1, if_neg h2, if_neg h3, if_neg h4, if_neg h5]
theorem f0_at (k : Nat) : σ0 199 k = if k = 2 then -1 else 0 := by
  by_cases h : k = 2
  · subst h; rfl
  · rw [if_neg h]
    exact σ0_z (fun q => absurd q.1 (by decide)) (fun q => absurd q.1 (by decide)) (fun q => by omega) (fun q => by omega) (fun q => h q.2)
theorem rep0 : rep 0 σ0 (σ0 199) := by
  refine ⟨fun k hk => ?_, fun h hh => ?_, fun g hg k hk => ?_, fun v hv k hk => ?_⟩
  · exact (by decide +kernel : ∀ k, k < 6 → σ0 0 (3 + k) = σ0 199 k) k hk
  · exact (by decide +kernel : ∀ h, h < 24 → σ0 (0 + 2) h = σ0 199 (6 + h)) h hh
  · exact (by decide +kernel : ∀ g, g < 4 → ∀ k, k < 4 → σ0 (0 + 4 + g) k = σ0 199 (30 + 4 * g + k)) g hg k hk
  · exact (by decide +kernel : ∀ v, v < 5 → ∀ k, k < 8 → σ0 (0 + 9 + v) k = cv (σ0 199) v k) v hv k hk
theorem ok0 : ok 0 (σ0 199) := by
  refine ⟨0, 0, ⟨by omega, rfl⟩, ⟨by omega, rfl⟩, fun g _ hg k hk => ?_, fun v _ hv k hk => ?_, fun v hv => absurd hv (by omega), Or.inl rfl, fun h hh => ⟨0, by omega, ?_⟩, ?_⟩
  · rw [f0_at, if_neg (by omega)]
  · rw [f0_at, if_neg (by omega)]
  · rw [f0_at, if_neg (by omega)]; rfl
  · exact ⟨fun _ => 0, fun _ => 0, fun g hg => by rw [f0_at, if_neg (by omega)]; rfl, fun v hv => by rw [f0_at, if_neg (by omega)]; rfl, by decide⟩
theorem RR0 : RR 0 σ0 := by
  refine ⟨rep0, ok0, ⟨0, 0, by omega, by omega, rfl, rfl, rfl, fun k hk => absurd hk (by omega)⟩, Or.inl ⟨rfl, rfl⟩, ⟨rfl, rfl, rfl⟩, ⟨0, by omega, rfl, rfl, fun j hj => absurd hj (by omega), rfl⟩, ⟨rfl, 0, by omega, rfl, rfl, fun j hj => absurd hj (by omega)⟩⟩
