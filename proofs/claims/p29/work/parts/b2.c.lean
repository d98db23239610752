/-! lists of cells: membership, order, a rest that a call never sees -/
theorem P_iff {D : va_G} {cl : List vw_C} {ws : va_W} {H : Heap} : va_P D cl ws H ↔ ∀ q ∈ ws, va_at D cl q H := by
  constructor
  · intro h q hq
    obtain ⟨k, hk⟩ := List.mem_iff_getElem?.mp hq
    exact h k q hk
  · intro h k q hk
    exact h q (List.mem_of_getElem? hk)
theorem D_iff {A : Nat → Prop} {ws : va_W} : va_D A ws ↔ ws.Pairwise (fun p q => p.1 ≠ q.1) ∧ ∀ q ∈ ws, A q.1 := by
  constructor
  · rintro ⟨h1, h2⟩
    refine ⟨?_, fun q hq => ?_⟩
    · rw [List.pairwise_iff_getElem]
      intro i j hi hj hij e
      exact absurd (h1 i j _ _ (List.getElem?_eq_getElem hi) (List.getElem?_eq_getElem hj) e) (by omega)
    · obtain ⟨k, hk⟩ := List.mem_iff_getElem?.mp hq
      exact h2 k q hk
  · rintro ⟨h1, h2⟩
    refine ⟨fun i j p q hi hj e => ?_, fun k q hk => h2 q (List.mem_of_getElem? hk)⟩
    rw [List.pairwise_iff_getElem] at h1
    obtain ⟨hi', ei⟩ := List.getElem?_eq_some_iff.mp hi
    obtain ⟨hj', ej⟩ := List.getElem?_eq_some_iff.mp hj
    rcases Nat.lt_trichotomy i j with h | h | h
    · exact absurd (by rw [ei, ej]; exact e) (h1 i j hi' hj' h)
    · exact h
    · exact absurd (by rw [ei, ej]; exact e.symm) (h1 j i hj' hi' h)
theorem P_perm {D : va_G} {cl : List vw_C} {ws ws' : va_W} {H : Heap} (hp : ws.Perm ws') (h : va_P D cl ws H) : va_P D cl ws' H := P_iff.mpr (fun q hq => P_iff.mp h q (hp.mem_iff.mpr hq))
theorem D_perm {A : Nat → Prop} {ws ws' : va_W} (hp : ws.Perm ws') (h : va_D A ws) : va_D A ws' := by
  obtain ⟨h1, h2⟩ := D_iff.mp h
  exact D_iff.mpr ⟨(hp.pairwise_iff (fun {a b} (hab : a.1 ≠ b.1) => fun e => hab e.symm)).mp h1, fun q hq => h2 q (hp.mem_iff.mpr hq)⟩
theorem P_left {D : va_G} {cl : List vw_C} {X R : va_W} {H : Heap} (h : va_P D cl (X ++ R) H) : va_P D cl X H := P_iff.mpr (fun q hq => P_iff.mp h q (List.mem_append_left _ hq))
theorem D_left {A : Nat → Prop} {X R : va_W} (h : va_D A (X ++ R)) : va_D A X := by
  obtain ⟨h1, h2⟩ := D_iff.mp h
  exact D_iff.mpr ⟨(List.pairwise_append.mp h1).1, fun q hq => h2 q (List.mem_append_left _ hq)⟩
theorem in_of {X w : va_W} {is : List Nat} (hs : is.map (fun i => X[i]?) = w.map some) {q : Nat × va_E} (hq : q ∈ w) : q ∈ X := by
  have h1 : some q ∈ w.map some := List.mem_map.mpr ⟨q, hq, rfl⟩
  rw [← hs] at h1
  obtain ⟨i, -, hi⟩ := List.mem_map.mp h1
  exact List.mem_of_getElem? hi
/-- the front is laid anew -/
theorem P_pick {D : va_G} {cl : List vw_C} {X X' R : va_W} {H : Heap} (h : va_P D cl (X ++ R) H) {is : List Nat} (hs : is.map (fun i => X[i]?) = X'.map some) : va_P D cl (X' ++ R) H := by
  refine P_iff.mpr (fun q hq => ?_)
  rcases List.mem_append.mp hq with h1 | h1
  · exact P_iff.mp h q (List.mem_append_left _ (in_of hs h1))
  · exact P_iff.mp h q (List.mem_append_right _ h1)
theorem D_pick {A : Nat → Prop} {X X' R : va_W} (h : va_D A (X ++ R)) {is : List Nat} (hn : va_nd is = true) (hs : is.map (fun i => X[i]?) = X'.map some) : va_D A (X' ++ R) := by
  obtain ⟨h1, h2⟩ := D_iff.mp h
  obtain ⟨a1, a2, a3⟩ := List.pairwise_append.mp h1
  have h3 := D_iff.mp ((D_left h).sub is hn hs)
  refine D_iff.mpr ⟨List.pairwise_append.mpr ⟨h3.1, a2, fun a ha b hb => a3 a (in_of hs ha) b hb⟩, fun q hq => ?_⟩
  rcases List.mem_append.mp hq with h4 | h4
  · exact h3.2 q h4
  · exact h2 q (List.mem_append_right _ h4)
/-- the rest's cells are none of the callee's -/
theorem R_apart {A0 : Nat → Prop} {D : va_G} {cl : List vw_C} {X wc R : va_W} {H : Heap} (hP : va_P D cl (X ++ R) H) (hD : va_D A0 (X ++ R)) {isC : List Nat} (hC : isC.map (fun i => X[i]?) = wc.map some) {q : Nat × va_E} (hq : q ∈ R) : ¬ va_A wc H.size q.1 := by
  rintro (⟨k, e, hk⟩ | h)
  · exact (List.pairwise_append.mp (D_iff.mp hD).1).2.2 _ (in_of hC (List.mem_of_getElem? hk)) _ hq rfl
  · have := (P_iff.mp hP q (List.mem_append_right _ hq)).lt
    omega
theorem joinL {A0 : Nat → Prop} {D : va_G} {cl : List vw_C} {X wc wr w1 R : va_W} {H H1 : Heap} (hP : va_P D cl (X ++ R) H) (hD : va_D A0 (X ++ R)) (isC isR : List Nat) (hC : isC.map (fun i => X[i]?) = wc.map some) (hR : isR.map (fun i => X[i]?) = wr.map some) (hn : va_nd isR = true) (hdis : ∀ i ∈ isR, i ∉ isC)
    (hk : ∀ q : Nat, q < H.size → ¬ va_A wc H.size q → H1[q]? = H[q]?) (hF : ∀ q, va_A wc H.size q → A0 q) (hP1 : va_P D cl w1 H1) (hD1 : va_D (va_A wc H.size) w1) : va_P D cl ((wr ++ w1) ++ R) H1 ∧ va_D A0 ((wr ++ w1) ++ R) := by
  obtain ⟨P2, D2⟩ := va_join (P_left hP) (D_left hD) isC isR hC hR hn hdis hk hF hP1 hD1
  obtain ⟨h1, h2⟩ := D_iff.mp hD
  obtain ⟨a1, a2, a3⟩ := List.pairwise_append.mp h1
  refine ⟨P_iff.mpr (fun q hq => ?_), D_iff.mpr ⟨List.pairwise_append.mpr ⟨(D_iff.mp D2).1, a2, fun a ha b hb => ?_⟩, fun q hq => ?_⟩⟩
  · rcases List.mem_append.mp hq with h3 | h3
    · exact P_iff.mp P2 q h3
    · have h4 := P_iff.mp hP q (List.mem_append_right _ h3)
      exact h4.kept (hk q.1 h4.lt (R_apart hP hD hC h3))
  · rcases List.mem_append.mp ha with h3 | h3
    · exact a3 a (in_of hR h3) b hb
    · intro e
      exact R_apart hP hD hC hb (e ▸ (D_iff.mp hD1).2 a h3)
  · rcases List.mem_append.mp hq with h3 | h3
    · exact (D_iff.mp D2).2 q h3
    · exact h2 q (List.mem_append_right _ h3)
section MKL
variable {p : Program} {l : Launch} {e : Env} {R0 : Room} {s : State} {m : MethodId} {args : Array Value} {below : List Frame} {meth : Method} {c : Code} {H H0 : Heap} {locs : List Loc} {cells slots : Nat} {Q : State → Prop}
variable {mc ms : Nat} {rest st0 : List Value} {pc : Nat} {ls : Array Slot}
variable {G : va_G} {cs : Nat → ClassId} {X wc wr R : va_W} {A0 : Nat → Prop} {Sg : Type} {w1 : Sg → va_W} {a : Array Value}
theorem miL {post : Int32 → Sg → Prop} (hr : va_Run p l e R0 s m args below meth c H locs cells slots mc ms (F0 m pc ls st0) rest (va_Qi post (fun u t => Aft G cs (va_A wc H.size) (w1 u) t) (va_A wc H.size) a) (va_A wc H.size)) (hP : va_P G vwCl (X ++ R) H) (hD : va_D A0 (X ++ R)) (hS : va_S A0 H0 H locs) (hA : ∀ q, H0.size ≤ q → A0 q) (isC isR : List Nat) (hC : isC.map (fun i => X[i]?) = wc.map some) (hR : isR.map (fun i => X[i]?) = wr.map some) (hn : va_nd isR = true) (hdis : ∀ i ∈ isR, i ∉ isC)
    (kk : ∀ (r : Int32) (u : Sg) (H1 : Heap) (locs1 : List Loc), post r u → va_P G vwCl ((wr ++ w1 u) ++ R) H1 → va_D A0 ((wr ++ w1 u) ++ R) → va_S A0 H0 H1 locs1 → W p l e R0 s m args below meth c H1 locs1 (cells + mc) (slots + ms) Q (F0 m (pc + 3) ls (.int r :: rest))) : W p l e R0 s m args below meth c H locs cells slots Q (F0 m pc ls st0) := by
  have hF := va_free (wc := wc) (D_left hD) hS hA isC hC
  refine va_calli hr hS (fun q _ h => hF q h) hF (fun r u t H1 locs1 ht hvm hw hB hz hk hS1 => ?_)
  obtain ⟨hP1, -, hD1⟩ := hB
  rw [ht] at hP1
  obtain ⟨hP2, hD2⟩ := joinL hP hD isC isR hC hR hn hdis hk hF hP1 hD1
  exact kk r u H1 locs1 hw hP2 hD2 hS1
theorem mlL {post : Int64 → Sg → Prop} (hr : va_Run p l e R0 s m args below meth c H locs cells slots mc ms (F0 m pc ls st0) rest (va_Ql post (fun u t => Aft G cs (va_A wc H.size) (w1 u) t) (va_A wc H.size) a) (va_A wc H.size)) (hP : va_P G vwCl (X ++ R) H) (hD : va_D A0 (X ++ R)) (hS : va_S A0 H0 H locs) (hA : ∀ q, H0.size ≤ q → A0 q) (isC isR : List Nat) (hC : isC.map (fun i => X[i]?) = wc.map some) (hR : isR.map (fun i => X[i]?) = wr.map some) (hn : va_nd isR = true) (hdis : ∀ i ∈ isR, i ∉ isC)
    (kk : ∀ (r : Int64) (u : Sg) (H1 : Heap) (locs1 : List Loc), post r u → va_P G vwCl ((wr ++ w1 u) ++ R) H1 → va_D A0 ((wr ++ w1 u) ++ R) → va_S A0 H0 H1 locs1 → W p l e R0 s m args below meth c H1 locs1 (cells + mc) (slots + ms) Q (F0 m (pc + 3) ls (.long r :: rest))) : W p l e R0 s m args below meth c H locs cells slots Q (F0 m pc ls st0) := by
  have hF := va_free (wc := wc) (D_left hD) hS hA isC hC
  refine va_calll hr hS (fun q _ h => hF q h) hF (fun r u t H1 locs1 ht hvm hw hB hz hk hS1 => ?_)
  obtain ⟨hP1, -, hD1⟩ := hB
  rw [ht] at hP1
  obtain ⟨hP2, hD2⟩ := joinL hP hD isC isR hC hR hn hdis hk hF hP1 hD1
  exact kk r u H1 locs1 hw hP2 hD2 hS1
end MKL
/-! the Texts that stand: a pool -/
abbrev TX : Type := Nat × Nat × Nat × Int32 × Int32 × Nat × (Nat → Int32) × Nat × (Nat → Int32)
def txc (cs : Nat → ClassId) (x : TX) : va_W := [(x.1, Sum.inr (8, [.ref x.2.1, .ref x.2.2.1, .int x.2.2.2.1, .int x.2.2.2.2.1])), (x.2.1, Sum.inl (cs 0, x.2.2.2.2.2.1, Sum.inl x.2.2.2.2.2.2.1)), (x.2.2.1, Sum.inl (cs 0, x.2.2.2.2.2.2.2.1, Sum.inl x.2.2.2.2.2.2.2.2))]
def pool (cs : Nat → ClassId) : List TX → va_W
  | [] => []
  | x :: l => txc cs x ++ pool cs l
/-- what is known of a Text: its room, its code -/
def okT (x : TX) : Prop := (0 ≤ x.2.2.2.1.toInt ∧ x.2.2.2.1.toInt ≤ 12) ∧ (0 ≤ x.2.2.2.2.1.toInt ∧ x.2.2.2.2.1.toInt ≤ 400) ∧ x.2.2.2.2.1.toInt ≤ (x.2.2.2.2.2.2.2.1 : Int) ∧ x.2.2.2.2.2.1 < 100000 ∧ CD x.2.2.2.2.2.2.2.2
theorem pool_app (cs : Nat → ClassId) (a b : List TX) : pool cs (a ++ b) = pool cs a ++ pool cs b := by
  induction a with
  | nil => rfl
  | cons x a ih => show txc cs x ++ pool cs (a ++ b) = (txc cs x ++ pool cs a) ++ pool cs b; rw [ih, List.append_assoc]
/-- a Text is taken out of the pool -/
theorem pool_out (cs : Nat → ClassId) (X : va_W) (R : va_W) (a : List TX) (x : TX) (b : List TX) : ((X ++ pool cs (a ++ x :: b)) ++ R).Perm ((X ++ txc cs x) ++ (pool cs (a ++ b) ++ R)) := by
  rw [pool_app, pool_app]
  show ((X ++ (pool cs a ++ (txc cs x ++ pool cs b))) ++ R).Perm _
  simp only [List.append_assoc]
  refine List.Perm.append_left X ?_
  rw [← List.append_assoc (pool cs a), ← List.append_assoc (txc cs x) (pool cs a)]
  exact List.Perm.append_right _ List.perm_append_comm
theorem pool_mem {cs : Nat → ClassId} {x : TX} {l : List TX} (h : x ∈ l) : (x.1, (Sum.inr (8, [.ref x.2.1, .ref x.2.2.1, .int x.2.2.2.1, .int x.2.2.2.2.1]) : va_E)) ∈ pool cs l := by
  induction l with
  | nil => cases h
  | cons y l ih =>
    show _ ∈ txc cs y ++ pool cs l
    rcases List.mem_cons.mp h with rfl | h
    · exact List.mem_append_left _ List.mem_cons_self
    · exact List.mem_append_right _ (ih h)
/-- what stands outside of the callee's cells: the Texts of a pool that the callee does not get, the word list -/
def XZ (xe : XE) (A : Nat → Prop) (U : State) : Prop := vk_S 1 lenZ bytZ xe.1 xe.2.1 A U U.heap ∧ vk_R RX5 122 txZ (xe.1 0) U ∧ va_Z "java/lang/String" "COMPACT_STRINGS" "Z" (.int 1) A U U.heap ∧ va_Z "jdk/internal/util/Preconditions" "SIOOBE_FORMATTER" "Ljava/util/function/BiFunction;" xe.2.2 A U U.heap
theorem XZ.XT {G : va_G} {cs : Nat → ClassId} {xe : XE} {A B : Nat → Prop} {s U : State} {H : Heap} {locs : List Loc} (h : XZ xe A s) (hU : U.heap = H) (hW : s.WarmedH U.vm) (hS : va_S A s.heap H locs) (hB : ∀ q, B q → A q) {TT : Nat → Prop} (hT : ∀ v, TT v → ¬ B v ∧ ∃ vs : List Value, va_at G vwCl (v, Sum.inr (8, vs)) H) : XT G TT xe B U := by
  obtain ⟨h2, h3, h4, h5⟩ := h
  refine ⟨fun v hv => ?_, ?_, vk_R.warm hW h3, ?_, ?_⟩
  · obtain ⟨n1, vs, p1⟩ := hT v hv
    refine ⟨n1, vs, P_iff.mpr (fun q hq => ?_)⟩
    obtain rfl := List.mem_singleton.mp hq
    rw [hU]; exact p1
  · rw [hU]; exact ((h2.kept hS.2.1).moved hW.alike).narrow hB
  · rw [hU]; exact ((h4.kept hS.2.1).moved hW.alike).narrow hB
  · rw [hU]; exact ((h5.kept hS.2.1).moved hW.alike).narrow hB
/-- the pool's Texts are outside -/
theorem T_out {G : va_G} {cs : Nat → ClassId} {A0 : Nat → Prop} {X wc R : va_W} {txs : List TX} {H : Heap} (hP : va_P G vwCl (X ++ (pool cs txs ++ R)) H) (hD : va_D A0 (X ++ (pool cs txs ++ R))) {isC : List Nat} (hC : isC.map (fun i => X[i]?) = wc.map some) : ∀ v, (∃ x ∈ txs, x.1 = v) → ¬ va_A wc H.size v ∧ ∃ vs : List Value, va_at G vwCl (v, Sum.inr (8, vs)) H := by
  rintro v ⟨x, hx, rfl⟩
  have h1 := List.mem_append_left R (pool_mem (cs := cs) hx)
  exact ⟨R_apart hP hD hC h1, _, P_iff.mp hP _ (List.mem_append_right _ h1)⟩
