section LQ
variable {D : va_G} {cl : List vw_C} {X X1 Y M Z : va_W} {H H1 : Heap} {A : Nat → Prop}
theorem lq_gl {i : Nat} {p : Nat × va_E} (h : X[i]? = some p) : (X ++ Y)[i]? = some p := by
  rw [List.getElem?_append_left (List.getElem?_eq_some_iff.mp h).1]; exact h
theorem lq_gr {i : Nat} {p : Nat × va_E} (h : Y[i]? = some p) : (X ++ Y)[X.length + i]? = some p := by
  rw [List.getElem?_append_right (by omega), Nat.add_sub_cancel_left]; exact h
theorem lq_l (h : va_P D cl (X ++ Y) H) : va_P D cl X H := fun k q hk => h k q (lq_gl hk)
theorem lq_r (h : va_P D cl (X ++ Y) H) : va_P D cl Y H := fun k q hk => h (X.length + k) q (lq_gr hk)
theorem lq_dl (h : va_D A (X ++ Y)) : va_D A X := ⟨fun i j p q hi hj e => h.1 i j p q (lq_gl hi) (lq_gl hj) e, fun k q hk => h.2 k q (lq_gl hk)⟩
theorem lq_dr (h : va_D A (X ++ Y)) : va_D A Y := ⟨fun i j p q hi hj e => by have := h.1 (X.length + i) (X.length + j) p q (lq_gr hi) (lq_gr hj) e; omega, fun k q hk => h.2 (X.length + k) q (lq_gr hk)⟩
theorem lq_dis (h : va_D A (X ++ Y)) {i j : Nat} {p q : Nat × va_E} (hi : X[i]? = some p) (hj : Y[j]? = some q) : p.1 ≠ q.1 := fun e => by
  have h1 := h.1 i (X.length + j) p q (lq_gl hi) (lq_gr hj) e
  have h2 := (List.getElem?_eq_some_iff.mp hi).1
  omega
theorem lq_join (hP : va_P D cl (X ++ Y) H) (hD : va_D A (X ++ Y)) (hk : ∀ q : Nat, q < H.size → ¬ va_A X H.size q → H1[q]? = H[q]?) (hF : ∀ q, va_A X H.size q → A q) (hP1 : va_P D cl X1 H1) (hD1 : va_D (va_A X H.size) X1) : va_P D cl (X1 ++ Y) H1 ∧ va_D A (X1 ++ Y) := by
  have apart : ∀ (k : Nat) (q : Nat × va_E), Y[k]? = some q → q.1 < H.size ∧ ¬ va_A X H.size q.1 := fun k q hq => by
    have hl := (lq_r hP k q hq).lt
    refine ⟨hl, fun h => ?_⟩
    rcases h with ⟨i, e, h⟩ | h
    · exact lq_dis hD h hq rfl
    · omega
  refine ⟨va_P.app hP1 (fun k q hq => ?_), va_D.app (hD1.weaken (fun k q _ h => hF q.1 h)) (lq_dr hD) (fun i j x y hx hy e => ?_)⟩
  · obtain ⟨g1, g2⟩ := apart k q hq
    exact (lq_r hP k q hq).kept (hk q.1 g1 g2)
  · exact (apart j y hy).2 (by rw [← e]; exact hD1.2 i x hx)
theorem lq_swap (hP : va_P D cl (X ++ (M ++ Z)) H) : va_P D cl (M ++ (X ++ Z)) H := va_P.app (lq_l (lq_r hP)) (va_P.app (lq_l hP) (lq_r (lq_r hP)))
theorem lq_dswap (hD : va_D A (X ++ (M ++ Z))) : va_D A (M ++ (X ++ Z)) :=
  va_D.app (lq_dl (lq_dr hD)) (va_D.app (lq_dl hD) (lq_dr (lq_dr hD)) (fun i j x y hx hy => lq_dis hD hx (lq_gr hy)))
    (fun i j x y hx hy => by
      by_cases h : j < X.length
      · rw [List.getElem?_append_left h] at hy
        exact (lq_dis hD hy (lq_gl hx)).symm
      · rw [List.getElem?_append_right (by omega)] at hy
        exact lq_dis (lq_dr hD) hx hy)
end LQ
