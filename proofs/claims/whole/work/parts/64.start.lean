/-! the start: two new objects say the same -/
theorem inv_start : Inv 0 i_wd i_sg i_lw i_hg (fun _ => 0) (fun _ => 0) 0 0 (fun _ => 0) (fun _ => 0) (fun _ => 0) (fun _ => 0) (fun _ => 0) (fun _ => 0) (fun _ => 0) 0 0 (fun _ => 0) (fun _ => 0) (fun _ => 0) 0 0 (fun _ => 0) (fun _ => 0) 0 0 (fun _ => 0) (fun _ => 0) 0 0 i_wd i_sg (fun _ => 0) (fun _ => 0) (fun _ => 0) (fun _ => 0) (fun _ => 0) (fun _ => 0) (fun _ => 0) := by
  have hst : StR 0 (fun _ => 0) (fun _ => 0) (fun _ => 0) (fun _ => 0) (fun _ => 0) (fun _ => 0) (fun _ => 0) (fun _ => 0) (fun _ => 0) := ⟨by omega, fun s h => absurd h (Nat.not_lt_zero s), fun s h => absurd h (Nat.not_lt_zero s)⟩
  refine ⟨0, 0, 0, by decide, by decide, ⟨rfl, Or.inl rfl, ?_⟩, ?_, hst, ⟨fun s h => absurd h (Nat.not_lt_zero s), fun _ _ _ => rfl⟩, ?_, Or.inl rfl, Or.inl rfl, Or.inl rfl⟩
  · intro n hn
    have h16 : ∀ v : Int32, v = 16 → ∃ k, 2 ≤ k ∧ k ≤ 31 ∧ v = nI k := fun v hv => ⟨16, by omega, by omega, hv.trans (by decide)⟩
    rcases (show n = 0 ∨ n = 1 ∨ n = 2 ∨ n = 3 ∨ n = 4 ∨ n = 5 by omega) with rfl | rfl | rfl | rfl | rfl | rfl <;> exact ⟨rfl, rfl, Or.inr (by decide +kernel), h16 _ (by decide +kernel), by decide +kernel, by decide +kernel⟩
  · unfold InR
    decide +kernel
  · obtain ⟨pl', pa', h1, h2⟩ := path_new hst 0 (fun _ => 0)
    have e : mX4_retrace (nI 0) 0 (fun _ => 0) (fun _ => 0) (fun _ => 0) = some (0, fun _ => 0) := rfl
    rw [e] at h1
    have e1 := Option.some.inj h1
    have e2 : (0 : Int32) = pl' := congrArg Prod.fst e1
    have e3 : (fun _ => 0) = pa' := congrArg Prod.snd e1
    subst e2 e3
    exact h2
