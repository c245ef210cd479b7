theorem c_of {G : kG} {a : Nat → Nat} {H : Heap} (h : eP G 334 a (iEk G a) H) : cP G (fun i => a (piI i)) z0 H := by
  refine fP_of fun i hi => ?_
  have hi := List.mem_range.mp hi
  show va_at G.1 vwCl (a (piI i), cC G (fun i => a (piI i)) R0 i (fl B0 i)) H
  by_cases h1 : i < 329
  · obtain ⟨r, t, hr, ht, rfl⟩ : ∃ r t, r < 7 ∧ t < 47 ∧ i = 47 * r + t := ⟨i / 47, i % 47, by omega, by omega, by omega⟩
    exact c_of_book h hr ht
  rcases (show i = 329 ∨ i = 330 ∨ i = 331 ∨ i = 332 ∨ i = 333 by omega) with rfl | rfl | rfl | rfl | rfl
  · have h' : va_at G.1 vwCl (a 0, .inr (5, [.ref (a 1), .ref (a 48), .ref (a 95), .int 0, .ref (a 142), .ref (a 332), .int 0, .int 0, .int 0])) H := fP_at h (List.mem_range.mpr (show 0 < 334 by decide))
    rw [cC0]
    exact h'
  · have h' : va_at G.1 vwCl (a 142, .inr (2, [.ref (a 143), .int 0])) H := fP_at h (List.mem_range.mpr (show 142 < 334 by decide))
    rw [cC1]
    exact h'
  · have h' : va_at G.1 vwCl (a 143, .inl (G.2.2.2.2, 4, .inr (.inr (.inr (.inr (fun j => if j < 4 then some (a (142 + (2 + 47 * j))) else none)))))) H := fP_at h (List.mem_range.mpr (show 143 < 334 by decide))
    rw [cC2]
    refine va_at_row (fun j hj => ?_) h'
    rw [if_pos hj]
    refine congrArg (fun x => some (a x)) ?_
    rcases (show j = 0 ∨ j = 1 ∨ j = 2 ∨ j = 3 by omega) with rfl | rfl | rfl | rfl <;> rfl
  · have h' : va_at G.1 vwCl (a 332, enT G (fun t => a (332 + t)) 0) H := fP_at h (List.mem_range.mpr (show 332 < 334 by decide))
    rw [cC3]
    exact h'
  · have h' : va_at G.1 vwCl (a 333, enT G (fun t => a (332 + t)) 1) H := fP_at h (List.mem_range.mpr (show 333 < 334 by decide))
    rw [cC4]
    exact h'
theorem gI_of {a : Nat → Nat} (h : gI 334 a) : gI 334 (fun i => a (piI i)) := by
  refine ⟨List.nodup_range, fun i hi j hj e => ?_⟩
  have hi := List.mem_range.mp hi
  have hj := List.mem_range.mp hj
  have e := h.2 (piI i) (List.mem_range.mpr (piI_lt hi)) (piI j) (List.mem_range.mpr (piI_lt hj)) e
  unfold piI at e
  repeat' split at e
  all_goals omega
theorem z0_RI : RI z0.1 := fun k hk => by
  show R0 k < 7
  unfold R0
  split <;> omega
theorem z0_RJ : RJ z0.1 := by
  refine ⟨fun i j hi hj e => ?_, fun k hk => ?_⟩
  · have e : R0 i = R0 j := e
    unfold R0 at e
    repeat' split at e
    all_goals omega
  · show R0 k ≠ 2
    unfold R0
    split <;> omega
