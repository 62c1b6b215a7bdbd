/-! calls out of the law: the callee's world is a part of the law's -/
section LR
variable {p : Program} {l : Launch} {e : Env} {R : Room} {s : State} {m : MethodId} {args : Array Value} {below : List Frame} {meth : Method} {c : Code} {H : Heap} {locs : List Loc} {cells slots : Nat} {Q : State → Prop}
variable {cc : ByteArray} {pc : Nat} {ls : Array Slot} {rest : List Value} {Ts : List Cond} {D : va_G} {cA : Nat → ClassId} {own : String} {A : Nat → Prop} {L : List Nat} {K : Nat → Nat} {I : Nat → Nat → Int32} {O : Nat → Nat → Option Nat} {ad av : Nat → Nat} {Y : va_W} {h0 : Nat} {q : Nat → Nat} {cq : Nat → ClassId} {F : Nat → Int32} {G : Nat → Nat → Int32}
theorem lx_Vi {y : MethodName} {w : List Cond} {rm : Room} {bytes : ByteArray} {maxL nL n index mc ms : Nat} {ret : Option FieldType} {vs st0 : List Value} {b : Nat} {WI1 WO1 : List (Nat × Nat)} {post : Int32 → List Nat → (Nat → Nat) → (Nat → Nat → Int32) → (Nat → Nat → Option Nat) → Prop} (S : CallFix p m c cc nL s args Ts own) (hK : va_K D vwCl (cT cA) s) (hV : cV ad av A s s.heap) (hA : ∀ x, s.heap.size ≤ x → A x) (hP : va_P D vwCl (cW cA L K I O ++ Y) H) (hD : va_D A (cW cA L K I O ++ Y)) (hS : va_S A s.heap H locs) (hb : b ∈ L) (hkb : K b = 5)
    (hC : Met l y w rm (cPre D cA ad av L K I O H.size (.ref b :: vs)) (cQi D cA L K I O H.size [] WI1 WO1 post) mc ms (va_A (cW cA L K I O) H.size)) (cw : CallW R s args own RX5 index y bytes maxL ret w rm mc ms n) (hn : vs.length = n) (hsz : ls.size = nL) (hst : st0 = vs.reverse ++ .ref b :: rest) (hro : (rest.map fun v => v.category).sum ≤ 8) (hdg : decode cc pc = .ok (.invokevirtual index, 3)) (hf : cells + mc ≤ R.cells ∧ slots + ms ≤ R.slots)
    (kk : ∀ (r : Int32) (L1 : List Nat) (K1 : Nat → Nat) (I1 : Nat → Nat → Int32) (O1 : Nat → Nat → Option Nat) (H : Heap) (locs : List Loc), cI L1 K1 I1 O1 → cFr [] WI1 WO1 L K I O L1 K1 I1 O1 → post r L1 K1 I1 O1 → va_P D vwCl (cW cA L1 K1 I1 O1 ++ Y) H → va_D A (cW cA L1 K1 I1 O1 ++ Y) → va_S A s.heap H locs → W p l e R s m args below meth c H locs (cells + mc) (slots + ms) Q (F0 m (pc + 3) ls (.int r :: rest))) : W p l e R s m args below meth c H locs cells slots Q (F0 m pc ls st0) := by
  have hPx := lq_l hP
  have hFc : ∀ x, va_A (cW cA L K I O) H.size x → A x := fun x hx => by
    rcases hx with ⟨k, e, hx⟩ | hx
    · exact (lq_dl hD).2 k _ hx
    · exact hA x (Nat.le_trans hS.1 hx)
  refine va_calli (va_runV (As := vs) (rest := rest) (b := b) S hC cw ⟨fun a U g mk z => ?_, ?_, fun U hU hW => ?_⟩ rfl hn hsz hst (lv_room hro) hdg hf) hS (fun x _ h => hFc x h) hFc (fun r u t H1 locs1 ht hvm hw hB hz1 hk1 hS1 => ?_)
  · obtain ⟨z0, z1, zP, zK, zD, zV⟩ := z
    exact ⟨z0, z1, zP, va_K.moved (u := U) (U := U.calling g mk a) (Vm.Alike.refl U.vm) zK, zD, zV.same rfl⟩
  · obtain ⟨j, hj⟩ := cw_at (cA := cA) (I := I) (O := O) hb hkb
    exact va_recv hK hPx (ci := 5) (q0 := j) rfl hj
  · exact ⟨rfl, by rw [hU], by rw [hU]; exact hPx, va_K.moved hW.alike hK, (lq_dl hD).weaken (fun _ _ _ _ => trivial), by
      rw [hU]
      exact hV.to hW (fun q h1 h2 => hS.2.1 q h1 h2) hFc⟩
  · obtain ⟨⟨hI1, hF1⟩, hp⟩ := hw
    obtain ⟨hP1, -, hD1⟩ := hB
    rw [ht] at hP1
    obtain ⟨hPj, hDj⟩ := lq_join hP hD hk1 hFc hP1 hD1
    exact kk r u.1 u.2.1 u.2.2.1 u.2.2.2 H1 locs1 hI1 hF1 hp hPj hDj hS1
theorem lm_Vi {y : MethodName} {w : List Cond} {rm : Room} {bytes : ByteArray} {maxL nL n index : Nat} {ret : Option FieldType} {vs st0 : List Value} {WF1 WG1 : List Nat} {post : Int32 → (Nat → Int32) → (Nat → Nat → Int32) → Prop} {X : va_W} (S : CallFix p m c cc nL s args Ts own) (hK : va_K D vwCl (mT cq) s) (hA : ∀ x, s.heap.size ≤ x → A x) (hP : va_P D vwCl (X ++ (mW h0 q cq F G ++ Y)) H) (hD : va_D A (X ++ (mW h0 q cq F G ++ Y))) (hS : va_S A s.heap H locs)
    (hC : Met l y w rm (mPre D h0 q cq F G H.size (.ref h0 :: vs)) (mQi D h0 q cq F G H.size WF1 WG1 post) 0 0 (va_A (mW h0 q cq F G) H.size)) (cw : CallW R s args own RX6 index y bytes maxL ret w rm 0 0 n) (hn : vs.length = n) (hsz : ls.size = nL) (hst : st0 = vs.reverse ++ .ref h0 :: rest) (hro : (rest.map fun v => v.category).sum ≤ 8) (hdg : decode cc pc = .ok (.invokevirtual index, 3)) (hf : cells ≤ R.cells ∧ slots ≤ R.slots)
    (kk : ∀ (r : Int32) (F1 : Nat → Int32) (G1 : Nat → Nat → Int32) (H : Heap) (locs : List Loc), mI F1 G1 → mFr WF1 WG1 F G F1 G1 → post r F1 G1 → va_P D vwCl (X ++ (mW h0 q cq F1 G1 ++ Y)) H → va_D A (X ++ (mW h0 q cq F1 G1 ++ Y)) → va_S A s.heap H locs → W p l e R s m args below meth c H locs cells slots Q (F0 m (pc + 3) ls (.int r :: rest))) : W p l e R s m args below meth c H locs cells slots Q (F0 m pc ls st0) := by
  have hP2 := lq_swap hP
  have hD2 := lq_dswap hD
  have hPx := lq_l hP2
  have hFc : ∀ x, va_A (mW h0 q cq F G) H.size x → A x := fun x hx => by
    rcases hx with ⟨k, e, hx⟩ | hx
    · exact (lq_dl hD2).2 k _ hx
    · exact hA x (Nat.le_trans hS.1 hx)
  refine va_calli (va_runV (As := vs) (rest := rest) (b := h0) S hC cw ⟨fun a U g mk z => ?_, va_recv hK hPx (ci := 6) (q0 := 0) rfl rfl, fun U hU hW => ?_⟩ rfl hn hsz hst (lv_room hro) hdg hf) hS (fun x _ h => hFc x h) hFc (fun r u t H1 locs1 ht hvm hw hB hz1 hk1 hS1 => ?_)
  · obtain ⟨z0, z1, zP, zK, zD⟩ := z
    exact ⟨z0, z1, zP, va_K.moved (u := U) (U := U.calling g mk a) (Vm.Alike.refl U.vm) zK, zD⟩
  · exact ⟨rfl, by rw [hU], by rw [hU]; exact hPx, va_K.moved hW.alike hK, (lq_dl hD2).weaken (fun _ _ _ _ => trivial)⟩
  · obtain ⟨hI1, hF1, hp⟩ := hw
    obtain ⟨hP1, -, hD1⟩ := hB
    rw [ht] at hP1
    obtain ⟨hPj, hDj⟩ := lq_join hP2 hD2 hk1 hFc hP1 hD1
    exact kk r u.1 u.2 H1 locs1 hI1 hF1 hp (lq_swap hPj) (lq_dswap hDj) hS1
end LR
