/-! the start -/
theorem mI0_1 {k : Nat} (h1 : k ≠ 1) (h2 : k ≠ 2) (h3 : k ≠ 3) (h4 : k ≠ 4) : mI0 1 k = 0 := by
  have e : mI0 1 k = upd (upd (upd (upd (fun _ => 0) 1 10) 2 2) 3 7) 4 5 k := rfl
  rw [e]
  simp [upd, h1, h2, h3, h4]
theorem BR_start : BR bI0 (mI0 1) := by
  have b7 : ∀ j : Nat, bI0 (j + 7) = iI := fun j => by
    funext k
    unfold bI0
    rw [if_neg (by omega), if_pos (by omega)]
  have bz : ∀ i k : Nat, i < 6 → bI0 i k = 0 := fun i k hi => by
    unfold bI0
    rw [if_neg (by omega), if_neg (by omega)]
  have hE : ∀ j : Nat, EB (bI0 (j + 7)) := fun j => by
    rw [b7]
    exact ⟨rfl, fun k h1 h2 => by
      unfold iI
      rw [if_neg (by omega), if_neg (by omega)], rfl⟩
  have hp : ∀ p : Int32, v_X1_paidOn bI0 p = 0 := fun p => by
    rw [pO_l]
    refine lS_0 40 0 (fun i _ _ => ?_)
    rw [(hE i).2.1 8 (by decide) (by decide), ite_self]
  have hSI : SI (mI0 1) := ⟨⟨0, by decide, mI0_1 (by decide) (by decide) (by decide) (by decide)⟩, ⟨0, by decide, mI0_1 (by decide) (by decide) (by decide) (by decide)⟩, fun b _ => ⟨0, by decide, mI0_1 (by omega) (by omega) (by omega) (by omega)⟩, fun b _ => ⟨0, by decide, mI0_1 (by omega) (by omega) (by omega) (by omega)⟩⟩
  refine ⟨hSI, 0, 0, ⟨⟨⟨mI0_1 (by decide) (by decide) (by decide) (by decide), by decide⟩, ⟨mI0_1 (by decide) (by decide) (by decide) (by decide), by decide, ?_⟩, ⟨?_, 0, by decide, mI0_1 (by decide) (by decide) (by decide) (by decide)⟩, ?_, fun k hk => ?_, ⟨10, 2, 7, 5, 0, ⟨rfl, rfl, rfl, rfl, rfl⟩, by decide, by decide, by decide, by decide, by decide, by decide⟩, fun c hc => ⟨?_, 0, by decide, ?_⟩, fun y hy => ?_, fun y hy => ?_⟩, fun j hj => absurd hj (by omega), fun j _ _ => hE j⟩, fun c hc => ?_, ?_, fun y hy => ⟨0, Nat.zero_le _, ?_⟩⟩
  · rw [bz 0 5 (by decide), mI0_1 (by decide) (by decide) (by decide) (by decide)]
  · rw [bz 0 6 (by decide), mI0_1 (by decide) (by decide) (by decide) (by decide)]
  · rw [bz 0 7 (by decide), mI0_1 (by decide) (by decide) (by decide) (by decide)]
  · rcases (show k = 0 ∨ k = 1 ∨ k = 2 ∨ k = 3 ∨ k = 4 by omega) with rfl | rfl | rfl | rfl | rfl <;> rfl
  · rw [bz 2 c (by decide), mI0_1 (by omega) (by omega) (by omega) (by omega)]
  · rw [mI0_1 (by omega) (by omega) (by omega) (by omega)]; rfl
  · rw [bz 3 y (by decide), mI0_1 (by omega) (by omega) (by omega) (by omega)]
  · rw [bz 4 y (by decide), mI0_1 (by omega) (by omega) (by omega) (by omega)]
  · rw [hp, bz 2 c (by decide), mI0_1 (by omega) (by omega) (by omega) (by omega), mI0_1 (by omega) (by omega) (by omega) (by omega)]; rfl
  · have e : v_X1_allCredit bI0 = 0 := by
      rw [aC_l]
      exact lS_0 8 0 (fun i _ _ => bz 2 i (by decide))
    rw [hp, e, bz 0 7 (by decide), lS_0 8 0 (fun i _ hi => mI0_1 (by omega) (by omega) (by omega) (by omega))]; rfl
  · rw [mI0_1 (by omega) (by omega) (by omega) (by omega)]; rfl
theorem RL_start : RLz z0 mI0 := by
  refine ⟨z0_RI, z0_RJ, BR_start, ⟨0, by decide, rfl, rfl, fun i hi => absurd hi (by omega)⟩, Or.inl ⟨rfl, rfl⟩, ⟨0, by decide, rfl, rfl, fun q hq => absurd hq (by omega)⟩, Or.inl ⟨rfl, rfl, rfl⟩⟩
