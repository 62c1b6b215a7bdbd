def mFs (q : Nat → Nat) (F : Nat → Int32) : List Value := [.ref (q 0), .int (F 1), .int (F 2), .int (F 3), .int (F 4), .ref (q 5), .ref (q 6), .ref (q 7), .ref (q 8), .ref (q 9), .ref (q 10), .ref (q 11), .ref (q 12), .int (F 13), .int (F 14), .int (F 15), .ref (q 16), .int (F 17), .ref (q 18), .ref (q 19), .ref (q 20), .ref (q 21), .ref (q 22), .ref (q 23), .ref (q 24), .ref (q 25), .ref (q 26), .ref (q 27), .ref (q 28), .ref (q 29), .ref (q 30), .int (F 31), .ref (q 32), .ref (q 33), .ref (q 34), .ref (q 35), .ref (q 36), .ref (q 37), .ref (q 38), .int (F 39), .int (F 40), .int (F 41), .int (F 42), .int (F 43), .int (F 44), .ref (q 45), .ref (q 46), .ref (q 47), .ref (q 48), .ref (q 49), .ref (q 50), .ref (q 51)]
def mW (h0 : Nat) (q : Nat → Nat) (cq : Nat → ClassId) (F : Nat → Int32) (G : Nat → Nat → Int32) : va_W := [(h0, .inr (6, mFs q F)), (q 0, .inl (cq 0, 1000, .inl (G 0))), (q 5, .inl (cq 5, 16, .inl (G 5))), (q 6, .inl (cq 6, 16, .inl (G 6))), (q 7, .inl (cq 7, 64, .inl (G 7))), (q 8, .inl (cq 8, 16, .inl (G 8))), (q 9, .inl (cq 9, 16, .inl (G 9))), (q 10, .inl (cq 10, 16, .inl (G 10))), (q 11, .inl (cq 11, 16, .inl (G 11))), (q 12, .inl (cq 12, 16, .inl (G 12))), (q 16, .inl (cq 16, 16, .inl (G 16))), (q 18, .inl (cq 18, 8, .inl (G 18))), (q 19, .inl (cq 19, 8, .inl (G 19))), (q 20, .inl (cq 20, 8, .inl (G 20))), (q 21, .inl (cq 21, 8, .inl (G 21))), (q 22, .inl (cq 22, 8, .inl (G 22))), (q 23, .inl (cq 23, 8, .inl (G 23))), (q 24, .inl (cq 24, 8, .inl (G 24))), (q 25, .inl (cq 25, 8, .inl (G 25))), (q 26, .inl (cq 26, 8, .inl (G 26))), (q 27, .inl (cq 27, 8, .inl (G 27))), (q 28, .inl (cq 28, 8, .inl (G 28))), (q 29, .inl (cq 29, 128, .inl (G 29))), (q 30, .inl (cq 30, 128, .inl (G 30))), (q 32, .inl (cq 32, 400, .inl (G 32))), (q 33, .inl (cq 33, 400, .inl (G 33))), (q 34, .inl (cq 34, 400, .inl (G 34))), (q 35, .inl (cq 35, 400, .inl (G 35))), (q 36, .inl (cq 36, 400, .inl (G 36))), (q 37, .inl (cq 37, 400, .inl (G 37))), (q 38, .inl (cq 38, 62, .inl (G 38))), (q 45, .inl (cq 45, 128, .inl (G 45))), (q 46, .inl (cq 46, 128, .inl (G 46))), (q 47, .inl (cq 47, 128, .inl (G 47))), (q 48, .inl (cq 48, 128, .inl (G 48))), (q 49, .inl (cq 49, 128, .inl (G 49))), (q 50, .inl (cq 50, 16, .inl (G 50))), (q 51, .inl (cq 51, 16, .inl (G 51)))]
def mT (cq : Nat → ClassId) : List (ClassId × FieldType) := [(cq 0, .int), (cq 5, .int), (cq 6, .int), (cq 7, .int), (cq 8, .int), (cq 9, .boolean), (cq 10, .int), (cq 11, .int), (cq 12, .int), (cq 16, .int), (cq 18, .int), (cq 19, .int), (cq 20, .int), (cq 21, .int), (cq 22, .boolean), (cq 23, .int), (cq 24, .int), (cq 25, .int), (cq 26, .int), (cq 27, .int), (cq 28, .int), (cq 29, .int), (cq 30, .int), (cq 32, .int), (cq 33, .int), (cq 34, .int), (cq 35, .int), (cq 36, .int), (cq 37, .int), (cq 38, .int), (cq 45, .int), (cq 46, .int), (cq 47, .int), (cq 48, .int), (cq 49, .int), (cq 50, .int), (cq 51, .int)]
def mUp (G : Nat → Nat → Int32) (k : Nat) (g : Nat → Int32) : Nat → Nat → Int32 := fun j => if j = k then g else G j
def mfb : Nat → Option (Int × Int) := fun k => if k = 1 then some (0, 1000) else if k = 3 then some (0, 200) else if k = 15 then some (0, 16) else if k = 17 then some (0, 8) else if k = 31 then some (0, 400) else if k = 39 then some (0, 1000) else if k = 40 then some (0, 1000) else if k = 41 then some (0, 5) else if k = 43 then some (0, 1000) else  none
def mab : Nat → Option (Int × Int) := fun k => if k = 6 then some (0, 4) else if k = 20 then some (0, 4) else if k = 27 then some (0, 16) else if k = 29 then some (0, 15) else if k = 50 then some (0, 15) else if k = 26 then some (-1, 7) else if k = 30 then some (-1, 15) else  none
def mwl : List Int32 := [102, 111, 114, 109, 97, 116, 32, 108, 97, 112, 115, 32, 115, 104, 111, 111, 116, 32, 115, 112, 97, 114, 101, 115, 32, 109, 105, 115, 115, 32, 108, 111, 111, 112, 32, 97, 100, 100, 32, 115, 116, 97, 114, 116, 32, 109, 97, 115, 115, 32, 101, 118, 101, 114, 121, 32, 99, 104, 97, 115, 101, 32]
def mI (F : Nat → Int32) (G : Nat → Nat → Int32) : Prop := (∀ (k : Nat) (b : Int × Int), mfb k = some b → b.1 ≤ (F k).toInt ∧ (F k).toInt ≤ b.2) ∧ (∀ (k : Nat) (b : Int × Int), mab k = some b → ∀ j : Nat, b.1 ≤ (G k j).toInt ∧ (G k j).toInt ≤ b.2) ∧ ∀ j : Nat, G 38 j = mwl.getD j 0
def mFr (WF WG : List Nat) (F : Nat → Int32) (G : Nat → Nat → Int32) (F' : Nat → Int32) (G' : Nat → Nat → Int32) : Prop := (∀ k, k ∉ WF → F' k = F k) ∧ ∀ k, k ∉ WG → G' k = G k
def mQ (D : va_G) (h0 : Nat) (q : Nat → Nat) (cq : Nat → ClassId) (A : Nat → Prop) (H0 : Heap) (WF WG : List Nat) (Fi : Nat → Int32) (Gi : Nat → Nat → Int32) (H : Heap) (locs : List Loc) (F : Nat → Int32) (G : Nat → Nat → Int32) : Prop := va_P D vwCl (mW h0 q cq F G) H ∧ va_D A (mW h0 q cq F G) ∧ va_S A H0 H locs ∧ mI F G ∧ mFr WF WG Fi Gi F G
def mX (p : Program) (c : Code) (cc : ByteArray) (s : State) (m : MethodId) (args : Array Value) (Ts : List Cond) (D : va_G) (cq : Nat → ClassId) : Prop := p.tables.exec = Jvm.exec ∧ c.code = cc ∧ (∀ w ∈ Ts, w.before args s = true) ∧ (∀ w ∈ wsX60, w ∈ Ts) ∧ s.vm.findClass RX6 = some m.cls ∧ va_K D vwCl (mT cq) s
def mPre (D : va_G) (h0 : Nat) (q : Nat → Nat) (cq : Nat → ClassId) (F : Nat → Int32) (G : Nat → Nat → Int32) (sz : Nat) (av : List Value) : Array Value → State → Prop := va_Pc av (fun U => U.heap.size = sz ∧ va_P D vwCl (mW h0 q cq F G) U.heap ∧ va_K D vwCl (mT cq) U ∧ va_D (fun _ => True) (mW h0 q cq F G))
def mB (D : va_G) (h0 : Nat) (q : Nat → Nat) (cq : Nat → ClassId) (A : Nat → Prop) (F : Nat → Int32) (G : Nat → Nat → Int32) (t : State) : Prop := va_P D vwCl (mW h0 q cq F G) t.heap ∧ va_K D vwCl (mT cq) t ∧ va_D A (mW h0 q cq F G)
def mQi (D : va_G) (h0 : Nat) (q : Nat → Nat) (cq : Nat → ClassId) (F : Nat → Int32) (G : Nat → Nat → Int32) (sz : Nat) (WF WG : List Nat) (post : Int32 → (Nat → Int32) → (Nat → Nat → Int32) → Prop) : Array Value → State → Outcome → State → Prop := va_Qi (fun r (u : (Nat → Int32) × (Nat → Nat → Int32)) => mI u.1 u.2 ∧ mFr WF WG F G u.1 u.2 ∧ post r u.1 u.2) (fun u t => mB D h0 q cq (va_A (mW h0 q cq F G) sz) u.1 u.2 t) (va_A (mW h0 q cq F G) sz)
def mQv (D : va_G) (h0 : Nat) (q : Nat → Nat) (cq : Nat → ClassId) (F : Nat → Int32) (G : Nat → Nat → Int32) (sz : Nat) (WF WG : List Nat) (post : (Nat → Int32) → (Nat → Nat → Int32) → Prop) : Array Value → State → Outcome → State → Prop := va_Qv (fun (u : (Nat → Int32) × (Nat → Nat → Int32)) => mI u.1 u.2 ∧ mFr WF WG F G u.1 u.2 ∧ post u.1 u.2) (fun u t => mB D h0 q cq (va_A (mW h0 q cq F G) sz) u.1 u.2 t) (va_A (mW h0 q cq F G) sz)
theorem mI_upd {F : Nat → Int32} {G : Nat → Nat → Int32} {k : Nat} {v : Int32} (h : mI F G) (hb : ∀ b, mfb k = some b → b.1 ≤ v.toInt ∧ v.toInt ≤ b.2) : mI (upd F k v) G := by
  refine ⟨fun j b hj => ?_, h.2⟩
  by_cases e : j = k
  · subst e; simp only [upd, if_true]; exact hb b hj
  · simp only [upd, if_neg e]; exact h.1 j b hj
theorem mI_up {F : Nat → Int32} {G : Nat → Nat → Int32} {k i : Nat} {x : Int32} (h : mI F G) (hk : k ≠ 38) (hb : ∀ b, mab k = some b → b.1 ≤ x.toInt ∧ x.toInt ≤ b.2) : mI F (mUp G k (upd (G k) i x)) := by
  refine ⟨h.1, fun j b hj n => ?_, fun j => ?_⟩
  · by_cases e : j = k
    · subst e
      simp only [mUp, if_true, upd]
      by_cases e2 : n = i
      · simp only [e2, if_true]; exact hb b hj
      · simp only [if_neg e2]; exact h.2.1 j b hj n
    · simp only [mUp, if_neg e]; exact h.2.1 j b hj n
  · simp only [mUp, if_neg (Ne.symm hk)]; exact h.2.2 j
theorem mFr.rf {WF WG : List Nat} {F : Nat → Int32} {G : Nat → Nat → Int32} : mFr WF WG F G F G := ⟨fun _ _ => rfl, fun _ _ => rfl⟩
theorem mFr.put {WF WG : List Nat} {Fi F : Nat → Int32} {Gi G : Nat → Nat → Int32} {k : Nat} {v : Int32} (h : mFr WF WG Fi Gi F G) (hk : k ∈ WF) : mFr WF WG Fi Gi (upd F k v) G := ⟨fun j hj => by
  have e : j ≠ k := fun q => hj (q ▸ hk)
  simp only [upd, if_neg e]; exact h.1 j hj, h.2⟩
theorem mFr.ast {WF WG : List Nat} {Fi F : Nat → Int32} {Gi G : Nat → Nat → Int32} {k : Nat} {g : Nat → Int32} (h : mFr WF WG Fi Gi F G) (hk : k ∈ WG) : mFr WF WG Fi Gi F (mUp G k g) := ⟨h.1, fun j hj => by
  have e : j ≠ k := fun q => hj (q ▸ hk)
  simp only [mUp, if_neg e]; exact h.2 j hj⟩
theorem mFr.tr {WF WG WF1 WG1 : List Nat} {Fi F F' : Nat → Int32} {Gi G G' : Nat → Nat → Int32} (h : mFr WF WG Fi Gi F G) (h1 : mFr WF1 WG1 F G F' G') (a : ∀ k ∈ WF1, k ∈ WF) (b : ∀ k ∈ WG1, k ∈ WG) : mFr WF WG Fi Gi F' G' :=
  ⟨fun k hk => (h1.1 k (fun q => hk (a k q))).trans (h.1 k hk), fun k hk => (h1.2 k (fun q => hk (b k q))).trans (h.2 k hk)⟩
theorem mQ.fb {D : va_G} {h0 : Nat} {q : Nat → Nat} {cq : Nat → ClassId} {A : Nat → Prop} {H0 : Heap} {WF WG : List Nat} {Fi : Nat → Int32} {Gi : Nat → Nat → Int32} {H : Heap} {locs : List Loc} {F : Nat → Int32} {G : Nat → Nat → Int32} (h : mQ D h0 q cq A H0 WF WG Fi Gi H locs F G) (k : Nat) {a b : Int} (hb : mfb k = some (a, b)) : a ≤ (F k).toInt ∧ (F k).toInt ≤ b := h.2.2.2.1.1 k _ hb
theorem mQ.ab {D : va_G} {h0 : Nat} {q : Nat → Nat} {cq : Nat → ClassId} {A : Nat → Prop} {H0 : Heap} {WF WG : List Nat} {Fi : Nat → Int32} {Gi : Nat → Nat → Int32} {H : Heap} {locs : List Loc} {F : Nat → Int32} {G : Nat → Nat → Int32} (h : mQ D h0 q cq A H0 WF WG Fi Gi H locs F G) (k : Nat) {a b : Int} (hb : mab k = some (a, b)) (j : Nat) : a ≤ (G k j).toInt ∧ (G k j).toInt ≤ b := h.2.2.2.1.2.1 k _ hb j
theorem mQ.wd {D : va_G} {h0 : Nat} {q : Nat → Nat} {cq : Nat → ClassId} {A : Nat → Prop} {H0 : Heap} {WF WG : List Nat} {Fi : Nat → Int32} {Gi : Nat → Nat → Int32} {H : Heap} {locs : List Loc} {F : Nat → Int32} {G : Nat → Nat → Int32} (h : mQ D h0 q cq A H0 WF WG Fi Gi H locs F G) (j : Nat) : G 38 j = mwl.getD j 0 := h.2.2.2.1.2.2 j
theorem mQ.fr {D : va_G} {h0 : Nat} {q : Nat → Nat} {cq : Nat → ClassId} {A : Nat → Prop} {H0 : Heap} {WF WG : List Nat} {Fi : Nat → Int32} {Gi : Nat → Nat → Int32} {H : Heap} {locs : List Loc} {F : Nat → Int32} {G : Nat → Nat → Int32} (h : mQ D h0 q cq A H0 WF WG Fi Gi H locs F G) : mFr WF WG Fi Gi F G := h.2.2.2.2
theorem ms_1 (q : Nat → Nat) (F : Nat → Int32) (v : Int32) : (mFs q F).set 1 (.int v) = mFs q (upd F 1 v) := rfl
theorem ms_2 (q : Nat → Nat) (F : Nat → Int32) (v : Int32) : (mFs q F).set 2 (.int v) = mFs q (upd F 2 v) := rfl
theorem ms_3 (q : Nat → Nat) (F : Nat → Int32) (v : Int32) : (mFs q F).set 3 (.int v) = mFs q (upd F 3 v) := rfl
theorem ms_4 (q : Nat → Nat) (F : Nat → Int32) (v : Int32) : (mFs q F).set 4 (.int v) = mFs q (upd F 4 v) := rfl
theorem ms_13 (q : Nat → Nat) (F : Nat → Int32) (v : Int32) : (mFs q F).set 13 (.int v) = mFs q (upd F 13 v) := rfl
theorem ms_14 (q : Nat → Nat) (F : Nat → Int32) (v : Int32) : (mFs q F).set 14 (.int v) = mFs q (upd F 14 v) := rfl
theorem ms_15 (q : Nat → Nat) (F : Nat → Int32) (v : Int32) : (mFs q F).set 15 (.int v) = mFs q (upd F 15 v) := rfl
theorem ms_17 (q : Nat → Nat) (F : Nat → Int32) (v : Int32) : (mFs q F).set 17 (.int v) = mFs q (upd F 17 v) := rfl
theorem ms_31 (q : Nat → Nat) (F : Nat → Int32) (v : Int32) : (mFs q F).set 31 (.int v) = mFs q (upd F 31 v) := rfl
theorem ms_39 (q : Nat → Nat) (F : Nat → Int32) (v : Int32) : (mFs q F).set 39 (.int v) = mFs q (upd F 39 v) := rfl
theorem ms_40 (q : Nat → Nat) (F : Nat → Int32) (v : Int32) : (mFs q F).set 40 (.int v) = mFs q (upd F 40 v) := rfl
theorem ms_41 (q : Nat → Nat) (F : Nat → Int32) (v : Int32) : (mFs q F).set 41 (.int v) = mFs q (upd F 41 v) := rfl
theorem ms_42 (q : Nat → Nat) (F : Nat → Int32) (v : Int32) : (mFs q F).set 42 (.int v) = mFs q (upd F 42 v) := rfl
theorem ms_43 (q : Nat → Nat) (F : Nat → Int32) (v : Int32) : (mFs q F).set 43 (.int v) = mFs q (upd F 43 v) := rfl
theorem ms_44 (q : Nat → Nat) (F : Nat → Int32) (v : Int32) : (mFs q F).set 44 (.int v) = mFs q (upd F 44 v) := rfl
theorem mg_0 (h0 : Nat) (q : Nat → Nat) (cq : Nat → ClassId) (F : Nat → Int32) (G : Nat → Nat → Int32) (g : Nat → Int32) : (mW h0 q cq F G).set 1 (q 0, .inl (cq 0, 1000, .inl g)) = mW h0 q cq F (mUp G 0 g) := rfl
theorem mg_5 (h0 : Nat) (q : Nat → Nat) (cq : Nat → ClassId) (F : Nat → Int32) (G : Nat → Nat → Int32) (g : Nat → Int32) : (mW h0 q cq F G).set 2 (q 5, .inl (cq 5, 16, .inl g)) = mW h0 q cq F (mUp G 5 g) := rfl
theorem mg_6 (h0 : Nat) (q : Nat → Nat) (cq : Nat → ClassId) (F : Nat → Int32) (G : Nat → Nat → Int32) (g : Nat → Int32) : (mW h0 q cq F G).set 3 (q 6, .inl (cq 6, 16, .inl g)) = mW h0 q cq F (mUp G 6 g) := rfl
theorem mg_7 (h0 : Nat) (q : Nat → Nat) (cq : Nat → ClassId) (F : Nat → Int32) (G : Nat → Nat → Int32) (g : Nat → Int32) : (mW h0 q cq F G).set 4 (q 7, .inl (cq 7, 64, .inl g)) = mW h0 q cq F (mUp G 7 g) := rfl
theorem mg_8 (h0 : Nat) (q : Nat → Nat) (cq : Nat → ClassId) (F : Nat → Int32) (G : Nat → Nat → Int32) (g : Nat → Int32) : (mW h0 q cq F G).set 5 (q 8, .inl (cq 8, 16, .inl g)) = mW h0 q cq F (mUp G 8 g) := rfl
theorem mg_9 (h0 : Nat) (q : Nat → Nat) (cq : Nat → ClassId) (F : Nat → Int32) (G : Nat → Nat → Int32) (g : Nat → Int32) : (mW h0 q cq F G).set 6 (q 9, .inl (cq 9, 16, .inl g)) = mW h0 q cq F (mUp G 9 g) := rfl
theorem mg_10 (h0 : Nat) (q : Nat → Nat) (cq : Nat → ClassId) (F : Nat → Int32) (G : Nat → Nat → Int32) (g : Nat → Int32) : (mW h0 q cq F G).set 7 (q 10, .inl (cq 10, 16, .inl g)) = mW h0 q cq F (mUp G 10 g) := rfl
theorem mg_11 (h0 : Nat) (q : Nat → Nat) (cq : Nat → ClassId) (F : Nat → Int32) (G : Nat → Nat → Int32) (g : Nat → Int32) : (mW h0 q cq F G).set 8 (q 11, .inl (cq 11, 16, .inl g)) = mW h0 q cq F (mUp G 11 g) := rfl
theorem mg_12 (h0 : Nat) (q : Nat → Nat) (cq : Nat → ClassId) (F : Nat → Int32) (G : Nat → Nat → Int32) (g : Nat → Int32) : (mW h0 q cq F G).set 9 (q 12, .inl (cq 12, 16, .inl g)) = mW h0 q cq F (mUp G 12 g) := rfl
theorem mg_16 (h0 : Nat) (q : Nat → Nat) (cq : Nat → ClassId) (F : Nat → Int32) (G : Nat → Nat → Int32) (g : Nat → Int32) : (mW h0 q cq F G).set 10 (q 16, .inl (cq 16, 16, .inl g)) = mW h0 q cq F (mUp G 16 g) := rfl
theorem mg_18 (h0 : Nat) (q : Nat → Nat) (cq : Nat → ClassId) (F : Nat → Int32) (G : Nat → Nat → Int32) (g : Nat → Int32) : (mW h0 q cq F G).set 11 (q 18, .inl (cq 18, 8, .inl g)) = mW h0 q cq F (mUp G 18 g) := rfl
theorem mg_19 (h0 : Nat) (q : Nat → Nat) (cq : Nat → ClassId) (F : Nat → Int32) (G : Nat → Nat → Int32) (g : Nat → Int32) : (mW h0 q cq F G).set 12 (q 19, .inl (cq 19, 8, .inl g)) = mW h0 q cq F (mUp G 19 g) := rfl
theorem mg_20 (h0 : Nat) (q : Nat → Nat) (cq : Nat → ClassId) (F : Nat → Int32) (G : Nat → Nat → Int32) (g : Nat → Int32) : (mW h0 q cq F G).set 13 (q 20, .inl (cq 20, 8, .inl g)) = mW h0 q cq F (mUp G 20 g) := rfl
theorem mg_21 (h0 : Nat) (q : Nat → Nat) (cq : Nat → ClassId) (F : Nat → Int32) (G : Nat → Nat → Int32) (g : Nat → Int32) : (mW h0 q cq F G).set 14 (q 21, .inl (cq 21, 8, .inl g)) = mW h0 q cq F (mUp G 21 g) := rfl
theorem mg_22 (h0 : Nat) (q : Nat → Nat) (cq : Nat → ClassId) (F : Nat → Int32) (G : Nat → Nat → Int32) (g : Nat → Int32) : (mW h0 q cq F G).set 15 (q 22, .inl (cq 22, 8, .inl g)) = mW h0 q cq F (mUp G 22 g) := rfl
theorem mg_23 (h0 : Nat) (q : Nat → Nat) (cq : Nat → ClassId) (F : Nat → Int32) (G : Nat → Nat → Int32) (g : Nat → Int32) : (mW h0 q cq F G).set 16 (q 23, .inl (cq 23, 8, .inl g)) = mW h0 q cq F (mUp G 23 g) := rfl
theorem mg_24 (h0 : Nat) (q : Nat → Nat) (cq : Nat → ClassId) (F : Nat → Int32) (G : Nat → Nat → Int32) (g : Nat → Int32) : (mW h0 q cq F G).set 17 (q 24, .inl (cq 24, 8, .inl g)) = mW h0 q cq F (mUp G 24 g) := rfl
theorem mg_25 (h0 : Nat) (q : Nat → Nat) (cq : Nat → ClassId) (F : Nat → Int32) (G : Nat → Nat → Int32) (g : Nat → Int32) : (mW h0 q cq F G).set 18 (q 25, .inl (cq 25, 8, .inl g)) = mW h0 q cq F (mUp G 25 g) := rfl
theorem mg_26 (h0 : Nat) (q : Nat → Nat) (cq : Nat → ClassId) (F : Nat → Int32) (G : Nat → Nat → Int32) (g : Nat → Int32) : (mW h0 q cq F G).set 19 (q 26, .inl (cq 26, 8, .inl g)) = mW h0 q cq F (mUp G 26 g) := rfl
theorem mg_27 (h0 : Nat) (q : Nat → Nat) (cq : Nat → ClassId) (F : Nat → Int32) (G : Nat → Nat → Int32) (g : Nat → Int32) : (mW h0 q cq F G).set 20 (q 27, .inl (cq 27, 8, .inl g)) = mW h0 q cq F (mUp G 27 g) := rfl
theorem mg_28 (h0 : Nat) (q : Nat → Nat) (cq : Nat → ClassId) (F : Nat → Int32) (G : Nat → Nat → Int32) (g : Nat → Int32) : (mW h0 q cq F G).set 21 (q 28, .inl (cq 28, 8, .inl g)) = mW h0 q cq F (mUp G 28 g) := rfl
theorem mg_29 (h0 : Nat) (q : Nat → Nat) (cq : Nat → ClassId) (F : Nat → Int32) (G : Nat → Nat → Int32) (g : Nat → Int32) : (mW h0 q cq F G).set 22 (q 29, .inl (cq 29, 128, .inl g)) = mW h0 q cq F (mUp G 29 g) := rfl
theorem mg_30 (h0 : Nat) (q : Nat → Nat) (cq : Nat → ClassId) (F : Nat → Int32) (G : Nat → Nat → Int32) (g : Nat → Int32) : (mW h0 q cq F G).set 23 (q 30, .inl (cq 30, 128, .inl g)) = mW h0 q cq F (mUp G 30 g) := rfl
theorem mg_32 (h0 : Nat) (q : Nat → Nat) (cq : Nat → ClassId) (F : Nat → Int32) (G : Nat → Nat → Int32) (g : Nat → Int32) : (mW h0 q cq F G).set 24 (q 32, .inl (cq 32, 400, .inl g)) = mW h0 q cq F (mUp G 32 g) := rfl
theorem mg_33 (h0 : Nat) (q : Nat → Nat) (cq : Nat → ClassId) (F : Nat → Int32) (G : Nat → Nat → Int32) (g : Nat → Int32) : (mW h0 q cq F G).set 25 (q 33, .inl (cq 33, 400, .inl g)) = mW h0 q cq F (mUp G 33 g) := rfl
theorem mg_34 (h0 : Nat) (q : Nat → Nat) (cq : Nat → ClassId) (F : Nat → Int32) (G : Nat → Nat → Int32) (g : Nat → Int32) : (mW h0 q cq F G).set 26 (q 34, .inl (cq 34, 400, .inl g)) = mW h0 q cq F (mUp G 34 g) := rfl
theorem mg_35 (h0 : Nat) (q : Nat → Nat) (cq : Nat → ClassId) (F : Nat → Int32) (G : Nat → Nat → Int32) (g : Nat → Int32) : (mW h0 q cq F G).set 27 (q 35, .inl (cq 35, 400, .inl g)) = mW h0 q cq F (mUp G 35 g) := rfl
theorem mg_36 (h0 : Nat) (q : Nat → Nat) (cq : Nat → ClassId) (F : Nat → Int32) (G : Nat → Nat → Int32) (g : Nat → Int32) : (mW h0 q cq F G).set 28 (q 36, .inl (cq 36, 400, .inl g)) = mW h0 q cq F (mUp G 36 g) := rfl
theorem mg_37 (h0 : Nat) (q : Nat → Nat) (cq : Nat → ClassId) (F : Nat → Int32) (G : Nat → Nat → Int32) (g : Nat → Int32) : (mW h0 q cq F G).set 29 (q 37, .inl (cq 37, 400, .inl g)) = mW h0 q cq F (mUp G 37 g) := rfl
theorem mg_45 (h0 : Nat) (q : Nat → Nat) (cq : Nat → ClassId) (F : Nat → Int32) (G : Nat → Nat → Int32) (g : Nat → Int32) : (mW h0 q cq F G).set 31 (q 45, .inl (cq 45, 128, .inl g)) = mW h0 q cq F (mUp G 45 g) := rfl
theorem mg_46 (h0 : Nat) (q : Nat → Nat) (cq : Nat → ClassId) (F : Nat → Int32) (G : Nat → Nat → Int32) (g : Nat → Int32) : (mW h0 q cq F G).set 32 (q 46, .inl (cq 46, 128, .inl g)) = mW h0 q cq F (mUp G 46 g) := rfl
theorem mg_47 (h0 : Nat) (q : Nat → Nat) (cq : Nat → ClassId) (F : Nat → Int32) (G : Nat → Nat → Int32) (g : Nat → Int32) : (mW h0 q cq F G).set 33 (q 47, .inl (cq 47, 128, .inl g)) = mW h0 q cq F (mUp G 47 g) := rfl
theorem mg_48 (h0 : Nat) (q : Nat → Nat) (cq : Nat → ClassId) (F : Nat → Int32) (G : Nat → Nat → Int32) (g : Nat → Int32) : (mW h0 q cq F G).set 34 (q 48, .inl (cq 48, 128, .inl g)) = mW h0 q cq F (mUp G 48 g) := rfl
theorem mg_49 (h0 : Nat) (q : Nat → Nat) (cq : Nat → ClassId) (F : Nat → Int32) (G : Nat → Nat → Int32) (g : Nat → Int32) : (mW h0 q cq F G).set 35 (q 49, .inl (cq 49, 128, .inl g)) = mW h0 q cq F (mUp G 49 g) := rfl
theorem mg_50 (h0 : Nat) (q : Nat → Nat) (cq : Nat → ClassId) (F : Nat → Int32) (G : Nat → Nat → Int32) (g : Nat → Int32) : (mW h0 q cq F G).set 36 (q 50, .inl (cq 50, 16, .inl g)) = mW h0 q cq F (mUp G 50 g) := rfl
theorem mg_51 (h0 : Nat) (q : Nat → Nat) (cq : Nat → ClassId) (F : Nat → Int32) (G : Nat → Nat → Int32) (g : Nat → Int32) : (mW h0 q cq F G).set 37 (q 51, .inl (cq 51, 16, .inl g)) = mW h0 q cq F (mUp G 51 g) := rfl
section MR
variable {p : Program} {l : Launch} {e : Env} {R : Room} {s : State} {m : MethodId} {args : Array Value} {below : List Frame} {meth : Method} {c : Code} {H : Heap} {locs : List Loc} {cells slots : Nat} {Q : State → Prop}
variable {cc : ByteArray} {pc : Nat} {ls : Array Slot} {rest : List Value}
variable {Ts : List Cond} {D : va_G} {h0 : Nat} {q : Nat → Nat} {cq : Nat → ClassId} {A : Nat → Prop} {H0 : Heap} {WF WG : List Nat} {Fi : Nat → Int32} {Gi : Nat → Nat → Int32} {F : Nat → Int32} {G : Nat → Nat → Int32}
theorem mr_get (E : mX p c cc s m args Ts D cq) (hM : mQ D h0 q cq A H0 WF WG Fi Gi H locs F G) (k : Nat) (hk : k < 52) {index : Nat} (hlink : Cond.fieldLink RX6 index "SkiShotsModel" (TX6 k).2.1 (TX6 k).2.2.1 ∈ Ts) (hs : (TX6 k).1 = "SkiShotsModel") {v : Value} (hv : (mFs q F)[k]? = some v) (hdg : decode cc pc = .ok (.getfield index, 3))
    (kk : W p l e R s m args below meth c H locs cells slots Q (F0 m (pc + 3) ls (v :: rest))) : W p l e R s m args below meth c H locs cells slots Q (F0 m pc ls (.ref h0 :: rest)) :=
  va_get (D := D) (cl := vwCl) (ci := 6) (C := RX6) (T := TX6) (N := 52) E.1 E.2.1 E.2.2.1 E.2.2.2.1 E.2.2.2.2.1 E.2.2.2.2.2 hM.1 0 rfl rfl k hk (E.2.2.1 _ hlink) (fun x hx => by rw [hs] at hx; exact hx) hv hdg kk
theorem mr_put (E : mX p c cc s m args Ts D cq) (hM : mQ D h0 q cq A H0 WF WG Fi Gi H locs F G) (k : Nat) (hk : k < 52) {index : Nat} (hlink : Cond.fieldLink RX6 index "SkiShotsModel" (TX6 k).2.1 (TX6 k).2.2.1 ∈ Ts) (hs : (TX6 k).1 = "SkiShotsModel") (hfin : (TX6 k).2.2.2 = false) (hty : parseFieldDescriptor (TX6 k).2.2.1 = some .int) {v : Int32} (hset : ∀ (q : Nat → Nat) (F : Nat → Int32) (v : Int32), (mFs q F).set k (.int v) = mFs q (upd F k v)) (hbd : ∀ b, mfb k = some b → b.1 ≤ v.toInt ∧ v.toInt ≤ b.2) (hWF : k ∈ WF) (hdg : decode cc pc = .ok (.putfield index, 3))
    (kk : ∀ (H : Heap) (locs : List Loc), mQ D h0 q cq A H0 WF WG Fi Gi H locs (upd F k v) G → W p l e R s m args below meth c H locs cells slots Q (F0 m (pc + 3) ls rest)) : W p l e R s m args below meth c H locs cells slots Q (F0 m pc ls (.int v :: .ref h0 :: rest)) :=
  va_put (D := D) (cl := vwCl) (ci := 6) (C := RX6) (T := TX6) (N := 52) (ty := .int) E.1 E.2.1 E.2.2.1 E.2.2.2.1 tyX6 tyX6_ok nmX6 E.2.2.2.2.1 E.2.2.2.2.2 hM.1 hM.2.1 hM.2.2.1 0 rfl rfl k hk (E.2.2.1 _ hlink) (fun x hx => by rw [hs] at hx; exact hx) hfin hty rfl rfl hk hdg
    (fun H1 locs1 h1 h2 h3 => kk H1 locs1 ⟨by rw [hset] at h1; exact h1, by rw [hset] at h2; exact h2, h3, mI_upd hM.2.2.2.1 hbd, hM.2.2.2.2.put hWF⟩)
theorem mr_ald (E : mX p c cc s m args Ts D cq) (hM : mQ D h0 q cq A H0 WF WG Fi Gi H locs F G) (q0 t0 : Nat) {a : Nat} {cA : ClassId} {n : Nat} {f : Nat → Int32} (ha : (mW h0 q cq F G)[q0]? = some (a, .inl (cA, n, .inl f))) (ht : (mT cq)[t0]? = some (cA, .int)) {i : Int32} {X : Int} (hi : i.toInt = X) (hin : 0 ≤ X ∧ X < n) (hdg : decode cc pc = .ok (.iaload, 1))
    (kk : W p l e R s m args below meth c H locs cells slots Q (F0 m (pc + 1) ls (.int (f i.toNatClampNeg) :: rest))) : W p l e R s m args below meth c H locs cells slots Q (F0 m pc ls (.int i :: .ref a :: rest)) := va_iald E.1 E.2.1 E.2.2.2.2.2 hM.1 q0 t0 ha ht (by rw [vp_in_iff, hi]; exact hin) hdg kk
theorem mr_zld (E : mX p c cc s m args Ts D cq) (hM : mQ D h0 q cq A H0 WF WG Fi Gi H locs F G) (q0 t0 : Nat) {a : Nat} {cA : ClassId} {n : Nat} {f : Nat → Int32} (ha : (mW h0 q cq F G)[q0]? = some (a, .inl (cA, n, .inl f))) (ht : (mT cq)[t0]? = some (cA, .boolean)) {i : Int32} {X : Int} (hi : i.toInt = X) (hin : 0 ≤ X ∧ X < n) (hdg : decode cc pc = .ok (.baload, 1))
    (kk : W p l e R s m args below meth c H locs cells slots Q (F0 m (pc + 1) ls (.int (f i.toNatClampNeg) :: rest))) : W p l e R s m args below meth c H locs cells slots Q (F0 m pc ls (.int i :: .ref a :: rest)) := va_zald E.1 E.2.1 E.2.2.2.2.2 hM.1 q0 t0 ha ht (by rw [vp_in_iff, hi]; exact hin) hdg kk
theorem mr_ast (E : mX p c cc s m args Ts D cq) (hM : mQ D h0 q cq A H0 WF WG Fi Gi H locs F G) (k q0 t0 : Nat) {n : Nat} (ha : (mW h0 q cq F G)[q0]? = some (q k, .inl (cq k, n, .inl (G k)))) (ht : (mT cq)[t0]? = some (cq k, .int)) {i x : Int32} {X : Int} (hi : i.toInt = X) (hin : 0 ≤ X ∧ X < n) (hset : ∀ (h0 : Nat) (q : Nat → Nat) (cq : Nat → ClassId) (F : Nat → Int32) (G : Nat → Nat → Int32) (g : Nat → Int32), (mW h0 q cq F G).set q0 (q k, .inl (cq k, n, .inl g)) = mW h0 q cq F (mUp G k g)) (hk : k ≠ 38) (hbd : ∀ b, mab k = some b → b.1 ≤ x.toInt ∧ x.toInt ≤ b.2) (hWG : k ∈ WG) (hdg : decode cc pc = .ok (.iastore, 1))
    (kk : ∀ (H : Heap) (locs : List Loc) (G1 : Nat → Nat → Int32), G1 = mUp G k (upd (G k) i.toNatClampNeg x) → mQ D h0 q cq A H0 WF WG Fi Gi H locs F G1 → W p l e R s m args below meth c H locs cells slots Q (F0 m (pc + 1) ls rest)) : W p l e R s m args below meth c H locs cells slots Q (F0 m pc ls (.int x :: .int i :: .ref (q k) :: rest)) :=
  va_iast E.1 E.2.1 E.2.2.2.2.2 hM.1 hM.2.1 hM.2.2.1 q0 t0 ha ht (by rw [vp_in_iff, hi]; exact hin) hdg
    (fun H1 locs1 h1 h2 h3 => kk H1 locs1 _ rfl ⟨by rw [hset] at h1; exact h1, by rw [hset] at h2; exact h2, h3, mI_up hM.2.2.2.1 hk hbd, hM.2.2.2.2.ast hWG⟩)
theorem mr_zst (E : mX p c cc s m args Ts D cq) (hM : mQ D h0 q cq A H0 WF WG Fi Gi H locs F G) (k q0 t0 : Nat) {n : Nat} (ha : (mW h0 q cq F G)[q0]? = some (q k, .inl (cq k, n, .inl (G k)))) (ht : (mT cq)[t0]? = some (cq k, .boolean)) {i x : Int32} {X : Int} (hi : i.toInt = X) (hin : 0 ≤ X ∧ X < n) (hset : ∀ (h0 : Nat) (q : Nat → Nat) (cq : Nat → ClassId) (F : Nat → Int32) (G : Nat → Nat → Int32) (g : Nat → Int32), (mW h0 q cq F G).set q0 (q k, .inl (cq k, n, .inl g)) = mW h0 q cq F (mUp G k g)) (hk : k ≠ 38) (hbd : mab k = none) (hWG : k ∈ WG) (hdg : decode cc pc = .ok (.bastore, 1))
    (kk : ∀ (H : Heap) (locs : List Loc) (G1 : Nat → Nat → Int32), G1 = mUp G k (upd (G k) i.toNatClampNeg (vp_nar .boolean x)) → mQ D h0 q cq A H0 WF WG Fi Gi H locs F G1 → W p l e R s m args below meth c H locs cells slots Q (F0 m (pc + 1) ls rest)) : W p l e R s m args below meth c H locs cells slots Q (F0 m pc ls (.int x :: .int i :: .ref (q k) :: rest)) :=
  va_zast E.1 E.2.1 E.2.2.2.2.2 hM.1 hM.2.1 hM.2.2.1 q0 t0 ha ht (by rw [vp_in_iff, hi]; exact hin) hdg
    (fun H1 locs1 h1 h2 h3 => kk H1 locs1 _ rfl ⟨by rw [hset] at h1; exact h1, by rw [hset] at h2; exact h2, h3, mI_up hM.2.2.2.1 hk (fun b hb => by rw [hbd] at hb; cases hb), hM.2.2.2.2.ast hWG⟩)
theorem mr_alen (E : mX p c cc s m args Ts D cq) (hM : mQ D h0 q cq A H0 WF WG Fi Gi H locs F G) (q0 t0 : Nat) {a : Nat} {cA : ClassId} {n : Nat} {f : Nat → Int32} (ha : (mW h0 q cq F G)[q0]? = some (a, .inl (cA, n, .inl f))) (ht : (mT cq)[t0]? = some (cA, .int)) {v : Int32} (hv : Int32.ofNat n = v) (hdg : decode cc pc = .ok (.arraylength, 1))
    (kk : W p l e R s m args below meth c H locs cells slots Q (F0 m (pc + 1) ls (.int v :: rest))) : W p l e R s m args below meth c H locs cells slots Q (F0 m pc ls (.ref a :: rest)) := va_alen (v := v) E.1 E.2.1 E.2.2.2.2.2 hM.1 q0 t0 ha ht hv hdg kk
/-- a call of a method of the reference -/
theorem mr_calli {y : MethodName} {w : List Cond} {rm : Room} {bytes : ByteArray} {maxL nL n index : Nat} {ret : Option FieldType} {av st0 : List Value} {WF1 WG1 : List Nat} {post : Int32 → (Nat → Int32) → (Nat → Nat → Int32) → Prop} (E : mX p c cc s m args Ts D cq) (hA : ∀ x, H0.size ≤ x → A x) (hml : c.maxLocals = nL) (hM : mQ D h0 q cq A H0 WF WG Fi Gi H locs F G)
    (hC : Met l y w rm (mPre D h0 q cq F G H.size (.ref h0 :: av)) (mQi D h0 q cq F G H.size WF1 WG1 post) 0 0 (va_A (mW h0 q cq F G) H.size)) (cw : CallW R s args RX6 RX6 index y bytes maxL ret w rm 0 0 n) (hn : av.length = n) (hsz : ls.size = nL) (hst : st0 = av.reverse ++ .ref h0 :: rest) (hro : (rest.map fun v => v.category).sum ≤ 8) (hdg : decode cc pc = .ok (.invokevirtual index, 3)) (hf : cells ≤ R.cells ∧ slots ≤ R.slots) (a1 : ∀ k ∈ WF1, k ∈ WF) (a2 : ∀ k ∈ WG1, k ∈ WG)
    (kk : ∀ (r : Int32) (F1 : Nat → Int32) (G1 : Nat → Nat → Int32) (H : Heap) (locs : List Loc), mFr WF1 WG1 F G F1 G1 → post r F1 G1 → mQ D h0 q cq A H0 WF WG Fi Gi H locs F1 G1 → W p l e R s m args below meth c H locs cells slots Q (F0 m (pc + 3) ls (.int r :: rest))) : W p l e R s m args below meth c H locs cells slots Q (F0 m pc ls st0) := by
  obtain ⟨hP, hD, hS, hI, hF⟩ := hM
  have hFc : ∀ x, va_A (mW h0 q cq F G) H.size x → A x := fun x hx => by
    rcases hx with ⟨k, e, hx⟩ | hx
    · exact hD.2 k _ hx
    · exact hA x (Nat.le_trans hS.1 hx)
  refine va_calli (va_runV (As := av) (rest := rest) (b := h0) ⟨E.1, E.2.1, hml, E.2.2.2.2.1, E.2.2.1⟩ hC cw ⟨fun a U g mk z => ?_, va_recv E.2.2.2.2.2 hP (ci := 6) (q0 := 0) rfl rfl, fun U hU hW => ?_⟩ rfl hn hsz hst (lv_room hro) hdg hf) hS (fun x _ h => hFc x h) hFc (fun r u t H1 locs1 ht hvm hw hB hz1 hk1 hS1 => ?_)
  · obtain ⟨z0, z1, zP, zK, zD⟩ := z
    exact ⟨z0, z1, zP, va_K.moved (u := U) (U := U.calling g mk a) (Vm.Alike.refl U.vm) zK, zD⟩
  · exact ⟨rfl, by rw [hU], by rw [hU]; exact hP, va_K.moved hW.alike E.2.2.2.2.2, hD.weaken (fun _ _ _ _ => trivial)⟩
  · obtain ⟨hI1, hF1, hp⟩ := hw
    obtain ⟨hP1, -, hD1⟩ := hB
    rw [ht] at hP1
    exact kk r u.1 u.2 H1 locs1 hF1 hp ⟨hP1, hD1.weaken (fun k x _ h => hFc x.1 h), hS1, hI1, hF.tr hF1 a1 a2⟩
theorem mr_callv {y : MethodName} {w : List Cond} {rm : Room} {bytes : ByteArray} {maxL nL n index : Nat} {ret : Option FieldType} {av st0 : List Value} {WF1 WG1 : List Nat} {post : (Nat → Int32) → (Nat → Nat → Int32) → Prop} (E : mX p c cc s m args Ts D cq) (hA : ∀ x, H0.size ≤ x → A x) (hml : c.maxLocals = nL) (hM : mQ D h0 q cq A H0 WF WG Fi Gi H locs F G)
    (hC : Met l y w rm (mPre D h0 q cq F G H.size (.ref h0 :: av)) (mQv D h0 q cq F G H.size WF1 WG1 post) 0 0 (va_A (mW h0 q cq F G) H.size)) (cw : CallW R s args RX6 RX6 index y bytes maxL ret w rm 0 0 n) (hn : av.length = n) (hsz : ls.size = nL) (hst : st0 = av.reverse ++ .ref h0 :: rest) (hro : (rest.map fun v => v.category).sum ≤ 8) (hdg : decode cc pc = .ok (.invokevirtual index, 3)) (hf : cells ≤ R.cells ∧ slots ≤ R.slots) (a1 : ∀ k ∈ WF1, k ∈ WF) (a2 : ∀ k ∈ WG1, k ∈ WG)
    (kk : ∀ (F1 : Nat → Int32) (G1 : Nat → Nat → Int32) (H : Heap) (locs : List Loc), mFr WF1 WG1 F G F1 G1 → post F1 G1 → mQ D h0 q cq A H0 WF WG Fi Gi H locs F1 G1 → W p l e R s m args below meth c H locs cells slots Q (F0 m (pc + 3) ls rest)) : W p l e R s m args below meth c H locs cells slots Q (F0 m pc ls st0) := by
  obtain ⟨hP, hD, hS, hI, hF⟩ := hM
  have hFc : ∀ x, va_A (mW h0 q cq F G) H.size x → A x := fun x hx => by
    rcases hx with ⟨k, e, hx⟩ | hx
    · exact hD.2 k _ hx
    · exact hA x (Nat.le_trans hS.1 hx)
  refine va_callv (va_runV (As := av) (rest := rest) (b := h0) ⟨E.1, E.2.1, hml, E.2.2.2.2.1, E.2.2.1⟩ hC cw ⟨fun a U g mk z => ?_, va_recv E.2.2.2.2.2 hP (ci := 6) (q0 := 0) rfl rfl, fun U hU hW => ?_⟩ rfl hn hsz hst (lv_room hro) hdg hf) hS (fun x _ h => hFc x h) hFc (fun u t H1 locs1 ht hvm hw hB hz1 hk1 hS1 => ?_)
  · obtain ⟨z0, z1, zP, zK, zD⟩ := z
    exact ⟨z0, z1, zP, va_K.moved (u := U) (U := U.calling g mk a) (Vm.Alike.refl U.vm) zK, zD⟩
  · exact ⟨rfl, by rw [hU], by rw [hU]; exact hP, va_K.moved hW.alike E.2.2.2.2.2, hD.weaken (fun _ _ _ _ => trivial)⟩
  · obtain ⟨hI1, hF1, hp⟩ := hw
    obtain ⟨hP1, -, hD1⟩ := hB
    rw [ht] at hP1
    exact kk u.1 u.2 H1 locs1 hF1 hp ⟨hP1, hD1.weaken (fun k x _ h => hFc x.1 h), hS1, hI1, hF.tr hF1 a1 a2⟩
/-- a call of a method that changes nothing -/
theorem mr_callp {y : MethodName} {w : List Cond} {rm : Room} {bytes : ByteArray} {maxL nL n index : Nat} {ret : Option FieldType} {av st0 : List Value} {post : Int32 → (Nat → Int32) → (Nat → Nat → Int32) → Prop} (E : mX p c cc s m args Ts D cq) (hA : ∀ x, H0.size ≤ x → A x) (hml : c.maxLocals = nL) (hM : mQ D h0 q cq A H0 WF WG Fi Gi H locs F G)
    (hC : Met l y w rm (mPre D h0 q cq F G H.size (.ref h0 :: av)) (mQi D h0 q cq F G H.size [] [] post) 0 0 (va_A (mW h0 q cq F G) H.size)) (cw : CallW R s args RX6 RX6 index y bytes maxL ret w rm 0 0 n) (hn : av.length = n) (hsz : ls.size = nL) (hst : st0 = av.reverse ++ .ref h0 :: rest) (hro : (rest.map fun v => v.category).sum ≤ 8) (hdg : decode cc pc = .ok (.invokevirtual index, 3)) (hf : cells ≤ R.cells ∧ slots ≤ R.slots)
    (kk : ∀ (r : Int32) (H : Heap) (locs : List Loc), post r F G → mQ D h0 q cq A H0 WF WG Fi Gi H locs F G → W p l e R s m args below meth c H locs cells slots Q (F0 m (pc + 3) ls (.int r :: rest))) : W p l e R s m args below meth c H locs cells slots Q (F0 m pc ls st0) := by
  refine mr_calli E hA hml hM hC cw hn hsz hst hro hdg hf (fun _ h => by cases h) (fun _ h => by cases h) (fun r F1 G1 H locs h1 h2 h3 => ?_)
  have e1 : F1 = F := funext fun k => h1.1 k (by simp)
  have e2 : G1 = G := funext fun k => h1.2 k (by simp)
  subst e1; subst e2
  exact kk r H locs h2 h3
theorem mr_ri {post : Int32 → (Nat → Int32) → (Nat → Nat → Int32) → Prop} {sz : Nat} {v : Int32} (E : mX p c cc s m args Ts D cq) (hr : meth.sig.returnType = some .int) (hlocks : meth.locks = false) (hsz : s.heap.size = sz) (hM : mQ D h0 q cq (va_A (mW h0 q cq Fi Gi) sz) s.heap WF WG Fi Gi H locs F G) (hp : post v F G) (hdg : decode cc pc = .ok (.ireturn, 1)) : W p l e R s m args below meth c H locs cells slots (MQ below (mQi D h0 q cq Fi Gi sz WF WG post) args s cells slots (va_A (mW h0 q cq Fi Gi) sz)) (F0 m pc ls [.int v]) := by
  obtain ⟨hP, hD, hS, hI, hF⟩ := hM
  exact W.iret (v := v) E.1 E.2.1 hr (fun t ht hW => ⟨⟨v, (F, G), rfl, ⟨hI, hF, hp⟩, by rw [ht]; exact hP, va_K.moved hW.alike E.2.2.2.2.2, hD⟩, hS.F ht⟩) hS.2.2 hdg
theorem mr_rz {post : Int32 → (Nat → Int32) → (Nat → Nat → Int32) → Prop} {sz : Nat} {v : Int32} {X : Int} (E : mX p c cc s m args Ts D cq) (hr : meth.sig.returnType = some .boolean) (hlocks : meth.locks = false) (hsz : s.heap.size = sz) (hM : mQ D h0 q cq (va_A (mW h0 q cq Fi Gi) sz) s.heap WF WG Fi Gi H locs F G) (hv : v.toInt = X) (hv2 : X = 0 ∨ X = 1) (hp : post v F G) (hdg : decode cc pc = .ok (.ireturn, 1)) : W p l e R s m args below meth c H locs cells slots (MQ below (mQi D h0 q cq Fi Gi sz WF WG post) args s cells slots (va_A (mW h0 q cq Fi Gi) sz)) (F0 m pc ls [.int v]) := by
  obtain ⟨hP, hD, hS, hI, hF⟩ := hM
  have hn : narrow .boolean (.int v) = .int v := by
    rcases hv2 with h | h
    · have e : v = 0 := Int32.toInt_inj.mp (by rw [hv, h]; decide)
      subst e; rfl
    · have e : v = 1 := Int32.toInt_inj.mp (by rw [hv, h]; decide)
      subst e; rfl
  exact W.zret (v := v) (ty := .boolean) E.1 E.2.1 hr hn (fun t ht hW => ⟨⟨v, (F, G), rfl, ⟨hI, hF, hp⟩, by rw [ht]; exact hP, va_K.moved hW.alike E.2.2.2.2.2, hD⟩, hS.F ht⟩) hS.2.2 hdg
theorem mr_rv {post : (Nat → Int32) → (Nat → Nat → Int32) → Prop} {sz : Nat} (E : mX p c cc s m args Ts D cq) (hr : meth.sig.returnType = none) (hlocks : meth.locks = false) (hsz : s.heap.size = sz) (hM : mQ D h0 q cq (va_A (mW h0 q cq Fi Gi) sz) s.heap WF WG Fi Gi H locs F G) (hp : post F G) (hdg : decode cc pc = .ok (.return_, 1)) : W p l e R s m args below meth c H locs cells slots (MQ below (mQv D h0 q cq Fi Gi sz WF WG post) args s cells slots (va_A (mW h0 q cq Fi Gi) sz)) (F0 m pc ls []) := by
  obtain ⟨hP, hD, hS, hI, hF⟩ := hM
  exact W.vret E.1 E.2.1 hr (fun t ht hW => ⟨⟨(F, G), rfl, ⟨hI, hF, hp⟩, by rw [ht]; exact hP, va_K.moved hW.alike E.2.2.2.2.2, hD⟩, hS.F ht⟩) hS.2.2 hdg
/-- a method of the reference from its start -/
theorem mr_met {y : MethodName} {w w' : List Cond} {rm : Room} {maxL sz : Nat} {ret : Option FieldType} {av : List Value} {Qc : Array Value → State → Outcome → State → Prop} (hy : plainName y.cls = true) (hw : w = Cond.code y cc maxL ret :: w') (hc : y.cls = RX6) (hin : ∀ x ∈ wsX60, x ∈ w) (hlen : (lg_sl av).length ≤ maxL) (hI : mI F G)
    (body : ∀ (p : Program) (e : Env) (s : State) (m : MethodId) (args : Array Value) (below : List Frame) (meth : Method) (c : Code) (ls : Array Slot), mX p c cc s m args w D cq → c.maxLocals = maxL → meth.sig.returnType = ret → meth.locks = false → s.heap.size = sz → (∀ x, s.heap.size ≤ x → va_A (mW h0 q cq F G) sz x) → mQ D h0 q cq (va_A (mW h0 q cq F G) sz) s.heap WF WG F G s.heap [] F G → lv_has ls maxL (lv_args 0 av) → W p l e rm s m args below meth c s.heap [] 0 0 (MQ below Qc args s 0 0 (va_A (mW h0 q cq F G) sz)) (F0 m 0 ls [])) :
    Met l y w rm (mPre D h0 q cq F G sz av) Qc 0 0 (va_A (mW h0 q cq F G) sz) := by
  refine Met.ofW (cc := cc) (maxL := maxL) (ret := ret) hy hw ?_
  intro p e s m args below meth c s₁ B hml hv
  obtain ⟨rfl, hsz, hP, hK, hD0⟩ := hv
  have hown : s.vm.findClass RX6 = some m.cls := by rw [← hc]; exact findClass_of_methodNamed B.named
  have hl := lv_entry av (n := maxL) hlen
  rw [lg_entry_eq]
  exact body p e s m _ below meth c _ ⟨B.exec, B.bytes, atoms_spec (ws := w) B.pre, hin, hown, hK⟩ hml B.returns B.notSynchronized hsz (fun x hx => Or.inr (by rw [← hsz]; exact hx)) ⟨hP, hD0.self, va_S.rf, hI, mFr.rf⟩ hl
end MR
