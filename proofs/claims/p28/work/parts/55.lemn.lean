/-! the constructors' families as the worlds of the methods -/
theorem va_at_row {G : kG} {q : Nat} {cA : ClassId} {N : Nat} {f f' : Nat → Option Nat} {H : Heap} (h : ∀ j, j < N → f j = f' j) (hv : va_at G.1 vwCl (q, .inl (cA, N, .inr (.inr (.inr (.inr f))))) H) : va_at G.1 vwCl (q, .inl (cA, N, .inr (.inr (.inr (.inr f'))))) H := by
  have e : vp_cell cA (N, .inr (.inr (.inr (.inr f)))) = vp_cell cA (N, .inr (.inr (.inr (.inr f')))) := by
    rw [vp_cell_q, vp_cell_q]
    unfold arrV
    refine congrArg (fun z => ({ cls := cA, slots := z, vm := .none } : Cell)) (congrArg (Array.ofFn (n := N)) (funext fun j => ?_))
    show va_rf (f j.val) = va_rf (f' j.val)
    rw [h j.val j.isLt]
  show H[q]? = some (vp_cell cA (N, .inr (.inr (.inr (.inr f')))))
  rw [← e]
  exact hv
def bI0 : Nat → Nat → Int32 := fun i k => if i = 6 then sI0 k else if 7 ≤ i then iI k else 0
theorem b_of {G : kG} {a : Nat → Nat} {H : Heap} {t : Nat} (ht : t < 47) (h : va_at G.1 vwCl (a t, bEk G a 40 t) H) : va_at G.1 vwCl (a t, bC G a t (bI0 t)) H := by
  rcases (show t = 0 ∨ t = 1 ∨ t = 2 ∨ t = 3 ∨ t = 4 ∨ t = 5 ∨ t = 6 ∨ 7 ≤ t by omega) with rfl | rfl | rfl | rfl | rfl | rfl | rfl | h7
  · exact h
  · exact va_at_row (fun j hj => if_pos hj) h
  · exact h
  · exact h
  · exact h
  · exact h
  · exact h
  · obtain ⟨u, rfl⟩ : ∃ u, t = u + 7 := ⟨t - 7, by omega⟩
    have e : bI0 (u + 7) = iI := by
      funext k
      unfold bI0
      rw [if_neg (by omega), if_pos (by omega)]
    rw [e]
    exact h
