def piI : Nat → Nat := fun i => if i < 141 then 1 + i else if i < 329 then i + 3 else if i = 329 then 0 else if i = 330 then 142 else if i = 331 then 143 else i
def R0 : Nat → Nat := fun k => if k < 2 then k else k + 1
def B0 : Nat → Nat → Nat → Int32 := fun r => if r < 7 then bI0 else fun _ _ => 0
def z0 : CS := (R0, B0)
theorem piI_lt {i : Nat} (h : i < 334) : piI i < 334 := by
  unfold piI
  repeat' split
  all_goals omega
theorem iEk_book {G : kG} {a : Nat → Nat} {r t : Nat} (hr : r < 7) (ht : t < 47) : iEk G a (piI (47 * r + t)) = bEk G (fun t' => a (piI (47 * r + t'))) 40 t := by
  by_cases h3 : r < 3
  · have hp : ∀ t', t' < 47 → piI (47 * r + t') = 1 + 47 * r + t' := fun t' h => by
      unfold piI
      rw [if_pos (by omega)]
      omega
    rw [hp t ht]
    unfold iEk
    rw [if_neg (by omega), if_pos (by omega), show (1 + 47 * r + t - 1) / 47 = r by omega, show (1 + 47 * r + t - 1) % 47 = t by omega]
    exact bEk_congr (fun t' h => congrArg a (hp t' h).symm) t
  · have hp : ∀ t', t' < 47 → piI (47 * r + t') = 47 * r + t' + 3 := fun t' h => by
      unfold piI
      rw [if_neg (by omega), if_pos (by omega)]
    rw [hp t ht]
    unfold iEk
    rw [if_neg (by omega), if_neg (by omega), if_pos (by omega), show 47 * r + t + 3 - 142 = (47 * (r - 3) + t) + 2 by omega]
    show bEk G (fun t' => a (142 + (2 + 47 * ((47 * (r - 3) + t) / 47) + t'))) 40 ((47 * (r - 3) + t) % 47) = _
    rw [show (47 * (r - 3) + t) / 47 = r - 3 by omega, show (47 * (r - 3) + t) % 47 = t by omega]
    exact bEk_congr (fun t' h => congrArg a (by rw [hp t' h]; omega)) t
theorem c_of_book {G : kG} {a : Nat → Nat} {H : Heap} (h : eP G 334 a (iEk G a) H) {r t : Nat} (hr : r < 7) (ht : t < 47) : va_at G.1 vwCl (a (piI (47 * r + t)), cC G (fun i => a (piI i)) R0 (47 * r + t) (fl B0 (47 * r + t))) H := by
  rw [cC_b hr ht, fl_b hr ht]
  have h' := fP_at h (List.mem_range.mpr (piI_lt (show 47 * r + t < 334 by omega)))
  rw [iEk_book hr ht] at h'
  have e : B0 r = bI0 := if_pos hr
  rw [e]
  exact b_of (a := fun t' => a (piI (47 * r + t'))) ht h'
