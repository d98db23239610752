theorem z_RWv0 (j : Nat) (h1 : 7 ≤ j) (h2 : j < 113) : RWv j 0 := by
  intro q hq k1 k2
  simp only [RWT, List.mem_cons, List.not_mem_nil, or_false] at hq
  rcases hq with rfl | rfl | rfl | rfl | rfl | rfl | rfl | rfl | rfl | rfl | rfl | rfl | rfl | rfl | rfl | rfl | rfl | rfl | rfl | rfl | rfl | rfl | rfl <;> simp only at k1 k2 ⊢ <;> first | (exfalso; omega) | decide
theorem z_RW : RW mRow := by
  intro j
  by_cases c : j < 250
  · have h : ∀ j, j < 250 → ∀ q ∈ RWT, q.1 ≤ j → j < q.2.1 → q.2.2.1 ≤ (mRow j).toInt ∧ (mRow j).toInt ≤ q.2.2.2 := by decide +kernel
    exact h j c
  · intro q hq k1 k2
    exfalso
    have h : ∀ q ∈ RWT, q.2.1 ≤ 250 := by decide +kernel
    have := h q hq
    omega
theorem z_RLW : RLW mRow := by
  refine ⟨z_RW, fun m hm => ?_⟩
  have h : ∀ m, m < 6 → (mRow (251 + 900 * m)).toInt = 0 := by decide +kernel
  rw [h m hm]
  exact ⟨by decide, fun c hc => by omega⟩
theorem z_IM : IM (fun _ => 0) (fun _ => 0) := fun k _ h => absurd rfl h
theorem z_DI : DI (fun _ => 0) (fun _ => 0) (fun _ => 0) (fun _ => 0) (fun _ => 0) := fun i _ => by show DR (Int32.toInt 0) (Int32.toInt 0) (Int32.toInt 0) (Int32.toInt 0) (Int32.toInt 0); unfold DR; decide
theorem z_LWI : LWI [] (fun _ => none) 0 (-1) := ⟨fun k _ v h => (by cases h), fun k h => (by have e : Int32.toInt 0 = 0 := rfl; omega), by decide, by decide, by decide⟩
theorem z_BY : BY (fun _ => 0) := by
  intro j q hq _ _
  simp only [BYT, List.mem_cons, List.not_mem_nil, or_false] at hq
  subst hq
  exact (by decide : (0 : Int) ≤ Int32.toInt 0 ∧ Int32.toInt 0 ≤ 255)
theorem z_CS : CS (fun _ => 0) := by
  intro j q hq _ _
  simp only [CST, List.mem_cons, List.not_mem_nil, or_false] at hq
  subst hq
  exact (by decide : (0 : Int) ≤ Int32.toInt 0 ∧ Int32.toInt 0 ≤ 99)
theorem z_LE : LE (fun _ => 0) := by
  intro j q hq _ _
  simp only [LET, List.mem_cons, List.not_mem_nil, or_false] at hq
  subst hq
  exact (by decide : (0 : Int) ≤ Int32.toInt 0 ∧ Int32.toInt 0 ≤ 2000000)
theorem z_TO : TO (fun _ => 0) := by
  intro j q hq _ _
  simp only [TOT, List.mem_cons, List.not_mem_nil, or_false] at hq
  subst hq
  exact (by decide : (0 : Int) ≤ Int32.toInt 0 ∧ Int32.toInt 0 ≤ 39)
theorem z_PC : PC (fun _ => 0) := by
  intro j q hq _ _
  simp only [PCT, List.mem_cons, List.not_mem_nil, or_false] at hq
  subst hq
  exact (by decide : (0 : Int) ≤ Int32.toInt 0 ∧ Int32.toInt 0 ≤ 2000000)
theorem z_FW : FW (fun _ => 0) := by
  intro j q hq _ _
  simp only [FWT, List.mem_cons, List.not_mem_nil, or_false] at hq
  subst hq
  exact (by decide : (0 : Int) ≤ Int32.toInt 0 ∧ Int32.toInt 0 ≤ 1000000)
theorem z_SA : SA (fun _ => 0) := by
  intro j q hq _ _
  simp only [SAT, List.mem_cons, List.not_mem_nil, or_false] at hq
  subst hq
  exact (by decide : (0 : Int) ≤ Int32.toInt 0 ∧ Int32.toInt 0 ≤ 99)
theorem z_LO : LO (fun _ => 0) := by
  intro j q hq _ _
  simp only [LOT, List.mem_cons, List.not_mem_nil, or_false] at hq
  subst hq
  exact (by decide : (0 : Int) ≤ Int32.toInt 0 ∧ Int32.toInt 0 ≤ 9)
theorem z_CE : CE (fun _ => 0) := by
  intro j q hq _ _
  simp only [CET, List.mem_cons, List.not_mem_nil, or_false] at hq
  subst hq
  exact (by decide : (0 : Int) ≤ Int32.toInt 0 ∧ Int32.toInt 0 ≤ 39)
theorem z_BU : BU (fun _ => 0) := by
  intro j q hq _ _
  simp only [BUT, List.mem_cons, List.not_mem_nil, or_false] at hq
  subst hq
  exact (by decide : (0 : Int) ≤ Int32.toInt 0 ∧ Int32.toInt 0 ≤ 9999)
theorem z_TE : TE (upd (upd (upd (fun _ => 0) 0 0) 1 2) 2 0) := by
  intro j q hq k1 k2
  simp only [TET, List.mem_cons, List.not_mem_nil, or_false] at hq
  subst hq
  have k2 : j < 3 := k2
  have h : ∀ j, j < 3 → (0 : Int) ≤ ((upd (upd (upd (fun _ => 0) 0 0) 1 2) 2 0) j).toInt ∧ ((upd (upd (upd (fun _ => 0) 0 0) 1 2) 2 0) j).toInt ≤ 9999 := by decide +kernel
  exact h j k2
theorem z_HD : HD (fun _ => 0) := fun i _ => by show (0 : Int32).toInt ≤ 20; decide
theorem z_CD : CD (fun _ => 0) := by
  intro j q hq _ _
  simp only [CDT, List.mem_cons, List.not_mem_nil, or_false] at hq
  subst hq
  exact (by decide : (0 : Int) ≤ Int32.toInt 0 ∧ Int32.toInt 0 ≤ 65535)
theorem z_KI : KI (fun _ => 0) := by
  intro j q hq _ _
  simp only [KIT, List.mem_cons, List.not_mem_nil, or_false] at hq
  subst hq
  exact (by decide : (0 : Int) ≤ Int32.toInt 0 ∧ Int32.toInt 0 ≤ 3)
theorem z_HA : HA (fl (fun _ => 0) 40 3) := by
  intro j q hq k1 k2
  simp only [HAT, List.mem_cons, List.not_mem_nil, or_false] at hq
  subst hq
  have k2 : j < 40 := k2
  have h : ∀ j, j < 40 → (1 : Int) ≤ ((fl (fun _ => 0) 40 3) j).toInt ∧ ((fl (fun _ => 0) 40 3) j).toInt ≤ 9 := by decide +kernel
  exact h j k2
theorem z_WA : WA (fun _ => 0) := by
  intro j q hq _ _
  simp only [WAT, List.mem_cons, List.not_mem_nil, or_false] at hq
  subst hq
  exact (by decide : (0 : Int) ≤ Int32.toInt 0 ∧ Int32.toInt 0 ≤ 99)
theorem z_CO : CO (fun _ => 0) := by
  intro j q hq _ _
  simp only [COT, List.mem_cons, List.not_mem_nil, or_false] at hq
  subst hq
  exact (by decide : (0 : Int) ≤ Int32.toInt 0 ∧ Int32.toInt 0 ≤ 7)
theorem z_EA : EA (fun _ => 0) := by
  intro j q hq _ _
  simp only [EAT, List.mem_cons, List.not_mem_nil, or_false] at hq
  subst hq
  exact (by decide : (0 : Int) ≤ Int32.toInt 0 ∧ Int32.toInt 0 ≤ 20)
theorem z_NC : NC (fun _ => 0) := by
  intro j q hq _ _
  simp only [NCT, List.mem_cons, List.not_mem_nil, or_false] at hq
  subst hq
  exact (by decide : (0 : Int) ≤ Int32.toInt 0 ∧ Int32.toInt 0 ≤ 7)
theorem z_NL : NL (fun _ => 0) := by
  intro j q hq _ _
  simp only [NLT, List.mem_cons, List.not_mem_nil, or_false] at hq
  subst hq
  exact (by decide : (0 : Int) ≤ Int32.toInt 0 ∧ Int32.toInt 0 ≤ 20)
theorem z_HC : HC (fun _ => 0) := by
  intro j q hq _ _
  simp only [HCT, List.mem_cons, List.not_mem_nil, or_false] at hq
  subst hq
  exact (by decide : (0 : Int) ≤ Int32.toInt 0 ∧ Int32.toInt 0 ≤ 7)
theorem z_HL : HL (fun _ => 0) := by
  intro j q hq _ _
  simp only [HLT, List.mem_cons, List.not_mem_nil, or_false] at hq
  subst hq
  exact (by decide : (0 : Int) ≤ Int32.toInt 0 ∧ Int32.toInt 0 ≤ 99)
theorem z_UN : UN (fun _ => 0) := fun m => z_RWv0 (7 + m % 106) (by omega) (by omega)
theorem z_SO : SO (fun _ => 0) := by
  intro j q hq _ _
  simp only [SOT, List.mem_cons, List.not_mem_nil, or_false] at hq
  subst hq
  exact (by decide : (0 : Int) ≤ Int32.toInt 0 ∧ Int32.toInt 0 ≤ 3)
theorem z_UB : UB (fun _ => 0) := fun m => z_RWv0 (7 + m % 106) (by omega) (by omega)
theorem z_TP : TP (fun _ => 0) := by
  intro j q hq _ _
  simp only [TPT, List.mem_cons, List.not_mem_nil, or_false] at hq
  subst hq
  exact (by decide : (0 : Int) ≤ Int32.toInt 0 ∧ Int32.toInt 0 ≤ 255)
theorem z_DY : DY (fun _ => 0) := by
  intro j q hq _ _
  simp only [DYT, List.mem_cons, List.not_mem_nil, or_false] at hq
  subst hq
  exact (by decide : (0 : Int) ≤ Int32.toInt 0 ∧ Int32.toInt 0 ≤ 100000000)
theorem z_GL : GL (fun _ => 0) := by
  intro j q hq _ _
  simp only [GLT, List.mem_cons, List.not_mem_nil, or_false] at hq
  subst hq
  exact (by decide : (0 : Int) ≤ Int32.toInt 0 ∧ Int32.toInt 0 ≤ 39)
theorem bt_zz (i : Nat) : bt 0 i = false := by unfold bt; simp
theorem z_RX0 : RXw (fun _ => 0) (fl (fun _ => 0) 40 3) (fun _ => 0) 0 (fun _ => 0) (fun _ => 0) 0 (fun _ => 0) (fun _ => 0) 0 (fun _ => 0) (fun _ => 0) 0 0 (fun _ => 0) (fun _ => 0) 0 (fun _ => 0) (fun _ => 0) 0 (upd (upd (upd (fun _ => 0) 0 0) 1 2) 2 0) 0 (-1) (fun j => (mRow j).toInt) := ⟨(show ∀ i, i < 40 → (((fun _ => 0) : Nat → Int32) i).toInt = (mRow (113 + i)).toInt by decide +kernel), (show ∀ i, i < 40 → (((fl (fun _ => 0) 40 3) : Nat → Int32) i).toInt = (mRow (153 + i)).toInt by decide +kernel), (show ∀ i, i < 40 → (((fun _ => 0) : Nat → Int32) i).toInt = (mRow (73 + i)).toInt by decide +kernel), ⟨show ∀ i, i < 40 → (mRow (33 + i)).toInt = (if bt 0 i = true then 1 else 0) by decide +kernel, fun i _ => bt_zz i⟩, (show ∀ i, i < 6 → (((fun _ => 0) : Nat → Int32) i).toInt = (mRow (10 + i)).toInt by decide +kernel), (show ∀ i, i < 6 → (((fun _ => 0) : Nat → Int32) i).toInt = (mRow (16 + i)).toInt by decide +kernel), (show Int32.toInt 0 = (mRow 0).toInt by decide +kernel), (show ∀ i, i < 5 → (((fun _ => 0) : Nat → Int32) i).toInt = (mRow (28 + i)).toInt by decide +kernel), (show ∀ i, i < 5 → (((fun _ => 0) : Nat → Int32) i).toInt = (mRow (193 + i)).toInt by decide +kernel), (show Int32.toInt 0 = (mRow 1).toInt by decide +kernel), (show ∀ i, i < 6 → (((fun _ => 0) : Nat → Int32) i).toInt = (mRow (198 + i)).toInt by decide +kernel), (show ∀ i, i < 6 → (((fun _ => 0) : Nat → Int32) i).toInt = (mRow (204 + i)).toInt by decide +kernel), (show Int32.toInt 0 = (mRow 2).toInt by decide +kernel), ⟨show ∀ i, i < 6 → (mRow (22 + i)).toInt = (if bh 0 i = true then 1 else 0) by decide +kernel, fun i _ => bh_0 i⟩, (show ∀ i, i < 8 → (((fun _ => 0) : Nat → Int32) i).toInt = (mRow (210 + 2 * i)).toInt by decide +kernel), (show ∀ i, i < 8 → (((fun _ => 0) : Nat → Int32) i).toInt = (mRow (211 + 2 * i)).toInt by decide +kernel), (show Int32.toInt 0 = (mRow 3).toInt by decide +kernel), (show ∀ i, i < 10 → (((fun _ => 0) : Nat → Int32) i).toInt = (mRow (226 + 2 * i)).toInt by decide +kernel), (show ∀ i, i < 10 → (((fun _ => 0) : Nat → Int32) i).toInt = (mRow (227 + 2 * i)).toInt by decide +kernel), (show Int32.toInt 0 = (mRow 4).toInt by decide +kernel), (show ∀ i, i < 3 → (((upd (upd (upd (fun _ => 0) 0 0) 1 2) 2 0) : Nat → Int32) i).toInt = (mRow (7 + i)).toInt by decide +kernel), (show Int32.toInt 0 = (mRow 5).toInt by decide +kernel), (show Int32.toInt (-1) = (mRow 6).toInt by decide +kernel), (fun i hi _ => (show ∀ i, i < 6 → (mRow (22 + i)).toInt = 0 by decide +kernel) i hi)⟩
theorem z_RXu0 : RXu (fun _ => 0) (fun _ => 0) (fun _ => 0) (fun _ => 0) (fun _ => 0) 0 15 (fun j => (mRow j).toInt) [] := ⟨by decide, by decide, by decide, by decide, trivial⟩
theorem z_LWZ0 {ls : Nat → List Cls} : LWZ [] (fun _ => none) 0 ls := fun k h => by have e : Int32.toInt 0 = 0 := rfl; omega
theorem z_RML0 {ls : Nat → List Cls} : RML mRow ls := ⟨by decide +kernel, fun k h => by have e : (mRow 5).toInt = 0 := (by decide +kernel); exfalso; omega⟩
theorem z_hW : hasW (vp_updL (vp_updL (vp_updL (vp_updL (vp_updL (vp_updL (vp_updL (vp_updL (vp_updL (fun _ => 0) 0 103820) 1 116807086) 2 4375176) 3 370116) 4 263748) 5 24170674) 6 20186324) 7 4153) 8 441828) (vp_updL (vp_updL (vp_updL (vp_updL (vp_updL (vp_updL (fun _ => 0) 0 4153) 1 146885) 2 404362868) 3 52) 4 2855638675) 5 116807086) := by unfold hasW; decide +kernel
theorem z_hH : hasH (vp_updL (vp_updL (vp_updL (vp_updL (vp_updL (fun _ => 0) 0 624435) 1 13094067) 2 140531) 3 7657651) 4 538561715) := by unfold hasH; decide +kernel
theorem z_hA : hasA (vp_updL (vp_updL (vp_updL (vp_updL (fun _ => 0) 0 4391) 1 263852) 2 284264) 3 12581) := by unfold hasA; decide +kernel
/-! what the Statement gives of the start: the word list, two statics -/
def flL : List Cond := flatC (Cond.and given_1 narrow_1)
theorem xz_el : ∀ j, j < 232 → flL[39 + j]? = some (Cond.eq (.elem (.field (Term.string "ListenWells$Reader" 122) "java/lang/String" "value" "[B") (.int (Int32.ofNat j))) (.int ((bytZ.getD 0 []).getD j 0))) := by decide +kernel
set_option maxHeartbeats 4000000 in
set_option maxRecDepth 100000 in
theorem xz_start {p : Program} {s : State} {m : MethodId} {meth : Method} {c : Code} {sb L : Nat} {xs : Nat → Int32} {A : Nat → Prop} (C0 : lw_At p s m meth c sb L xs) (hA : ∀ a : Nat, a < s.heap.size → ¬ A a) : ∃ xe : XE, isRf xe.2.2 ∧ XZ xe A s := by
  obtain ⟨hx, hb, hr, hml, hown, hts, hX, hbl, hlocks, hgv⟩ := id C0
  have hs := flat_of_before _ hgv
  have h1 : va_Z "java/lang/String" "COMPACT_STRINGS" "Z" (.int 1) A s s.heap := va_Zof (hts _ (List.mem_append_right _ (List.mem_of_getElem? (i := 693) (by decide +kernel)))) (hts _ (List.mem_append_right _ (List.mem_of_getElem? (i := 16) (by decide +kernel)))) (va_eqi (hs _ (by decide +kernel))) hA
  have h2 : va_Zq "jdk/internal/util/Preconditions" "SIOOBE_FORMATTER" "Ljava/util/function/BiFunction;" A s s.heap := va_Zqof (hts _ (List.mem_append_right _ (List.mem_of_getElem? (i := 701) (by decide +kernel)))) (hts _ (List.mem_append_right _ (List.mem_of_getElem? (i := 18) (by decide +kernel)))) (hs _ (by decide +kernel)) hA
  have i0 : ∀ i : Nat, i < 1 → i = 0 := fun i h => by omega
  obtain ⟨adK, adV, hS, hE⟩ := vk_Sof (args := #[Value.ref sb]) (s := s) (N := 1) (tm := fun _ => (Term.string "ListenWells$Reader" 122)) (len := lenZ) (byt := bytZ) (A := A) (fun i h => by rw [i0 i h]; decide) (fun i _ => hs _ (by decide +kernel)) (fun i _ => hs _ (by decide +kernel)) (fun i _ => hs _ (by decide +kernel)) (fun i h => by rw [i0 i h]; exact hs _ (by decide +kernel)) (fun i h j hj => by rw [i0 i h] at hj ⊢; exact hs _ (List.mem_of_getElem? (xz_el j hj))) (fun i j hi hj hij => absurd ((i0 i hi).trans (i0 j hj).symm) hij) hA
  have hR : vk_R RX5 122 txZ (adK 0) s := vk_R.of (hts _ (List.mem_append_right _ (List.mem_of_getElem? (i := 683) (by decide +kernel)))) (hE 0 (by decide))
  rcases h2 with h2 | ⟨t, h2⟩
  · exact ⟨(adK, adV, .null), Or.inl rfl, hS, hR, h1, h2⟩
  · exact ⟨(adK, adV, .ref t), Or.inr ⟨t, rfl⟩, hS, hR, h1, h2⟩
