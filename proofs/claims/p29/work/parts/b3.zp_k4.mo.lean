/-! ORDERS of the reference, run -/
theorem x_evMO {row : Nat → Int32} {w : Nat → Int} {set now : Nat → Int64} {dn lt : Int32} (hR : RMw row w) (hr : RLW row) : EvM 1 (ovW w dn.toInt lt.toInt) row set (vp_updL (vp_updL (vp_updL now 1 (row (7 : Int32).toNatClampNeg).toInt64) 2 dn.toInt64) 3 lt.toInt64) := by
  have e0 := hR 0 (by decide)
  have e1 := hR 1 (by decide)
  have r0 := RLW.at_0 hr (n := 0) rfl (by decide) (by decide)
  have r1 := RLW.at_1 hr (n := 1) rfl (by decide) (by decide)
  have rw_ : ∀ j, j < 246 → (row j).toInt64 = Int64.ofInt (w j) := fun j hj => by rw [← hR j hj]; exact (Int64.ofInt_int32ToInt _).symm
  refine Or.inr ⟨rfl, ⟨r0.1, r0.2, r1.1, r1.2⟩, fun o a h1 h4 => ?_, fun a => ?_, fun o a h5 h6 => ?_, fun a => ?_⟩
  · have ho : o = 1 ∨ o = 2 ∨ o = 3 := by omega
    unfold ovW
    rcases ho with rfl | rfl | rfl
    · rw [if_pos rfl, ← rw_ 7 (by decide)]; rfl
    · rw [if_neg (by decide), if_pos rfl, Int64.ofInt_int32ToInt]; rfl
    · rw [if_neg (by decide), if_neg (by decide), if_pos rfl, Int64.ofInt_int32ToInt]; rfl
  · unfold ovW
    rw [if_neg (by decide), if_neg (by decide), if_neg (by decide), if_pos rfl]
    by_cases c : (a : Int) < w 0
    · rw [if_pos c, if_pos (by omega), rw_ _ (by omega)]
    · rw [if_neg c, if_neg (by omega)]
  · unfold ovW
    rw [if_neg (by omega), if_neg (by omega), if_neg (by omega), if_neg (by omega), if_neg h6]
    by_cases c : (a : Int) < w 0
    · rw [if_pos c, if_pos (by omega), rw_ _ (by omega)]
    · rw [if_neg c, if_neg (by omega)]
  · unfold ovW
    rw [if_neg (by decide), if_neg (by decide), if_neg (by decide), if_neg (by decide), if_pos rfl]
    by_cases c : (a : Int) < w 1
    · rw [if_pos c, if_pos (by omega), rw_ _ (by omega)]
    · rw [if_neg c, if_neg (by omega)]
abbrev QSu : Type := Int32 → (Int32 × Int32 × Int64 × Int32 × (Nat → Int64)) → Prop
theorem x_sumOf0 {a od law br : Int32} {val : Int64} {nO row nOp nArg : Nat → Int32} {rest now set : Nat → Int64} {A : Nat} (ha : a.toInt = (A : Int)) (hA : A < 95) (h : nO A = nO (A + 1)) {Q : QSu} (hq : Q (-1) (od, br, val, 0, rest)) : wp_X12_sumOf a od law br val 0 nO row nOp nArg rest now set Q := by
  have a1 := add1 ha (by omega)
  unfold wp_X12_sumOf
  refine br1 rfl ⟨vpi ha (by omega) (by omega), vpi a1 (by omega) (by omega), ?_⟩
  rw [tnN ha, tnN a1]
  exact br1 h hq
theorem x_sumOfB {a od law br : Int32} {val : Int64} {nO row nOp nArg : Nat → Int32} {rest now set : Nat → Int64} {Q : QSu} (hq : Q (-1) (od, br, val, 1, rest)) : wp_X12_sumOf a od law br val 1 nO row nOp nArg rest now set Q := by
  unfold wp_X12_sumOf
  exact br0 (by decide) hq
theorem x_sumOf1 {v : Nat → Nat → Int64} {a od law br : Int32} {val : Int64} {nO row nOp nArg : Nat → Int32} {rest now set : Nat → Int64} {A c : Nat} (hv : EvM 1 v row set now) (hc : c ≤ 400) (hCB : CB nOp nArg c) (ha : a.toInt = (A : Int)) (hA : A < 95) {s : Sem} (hs : sgM nOp nArg c (nO A) (nO (A + 1)) (some s)) {Q : QSu} (h1 : ∀ x, s v = some x → ∀ rest', Q x.toInt32 (0, 0, x, 0, rest')) (h0 : s v = none → ∀ x rest', Q x.toInt32 (0, 1, x, 1, rest')) : wp_X12_sumOf a od law br val 0 nO row nOp nArg rest now set Q := by
  have a1 := add1 ha (by omega)
  obtain ⟨q, E, k, y1, y2, y3, y4, y5⟩ := hs
  have qE := y4.1
  have va : vp_in a 96 := vpi ha (by omega) (by omega)
  have vb : vp_in (a + 1) 96 := vpi a1 (by omega) (by omega)
  unfold wp_X12_sumOf
  refine br1 rfl ⟨va, vb, ?_⟩
  rw [tnN ha, tnN a1]
  refine br0 (z_ne y1 y2 (by omega)) ⟨va, vb, ?_⟩
  exact x_mall (Or.inr ⟨rfl, rfl, rfl⟩) hv y1 y2 (by omega) (fun i hi => hCB i (by omega)) y4 y5 (fun x hx rest' => un3_i ⟨Or.inl rfl, h1 x hx rest'⟩) (fun hn x rest' => un3_i ⟨Or.inr rfl, h0 hn x rest'⟩)
/-- what the reference holds while deeds are done -/
def OMs (nU br : Int32) (row un so : Nat → Int32) (w : Nat → Int) (U : UL) (ls : Nat → List Cls) : Prop := (0 ≤ nU.toInt ∧ nU.toInt ≤ 16) ∧ (0 ≤ br.toInt ∧ br.toInt ≤ 1) ∧ RLW row ∧ UN un ∧ SO so ∧ RMw row w ∧ RMu un so nU U ∧ RML row ls
abbrev QAc : Type := Int32 → (Int32 × Int32 × Int32 × Int64 × Int64 × (Nat → Int32) × (Nat → Int64) × (Nat → Int64) × (Nat → Int32) × (Nat → Int32)) → Prop
/-- a deed, by its number -/
def ddR (F : Option (List Cls)) (w : Nat → Int) (k : Nat) (x y : Int) : Int := if k = 2 then hushR w x else if k = 1 then haulR F w x else if k = 3 then lieR w x y else digR F w x y
def ddW (F : Option (List Cls)) (w : Nat → Int) (k : Nat) (x y : Int) : Nat → Int := if k = 2 then hushW w x else if k = 1 then haulW F w x else if k = 3 then lieW w x y else digW F w x y
theorem ddR_0 {F : Option (List Cls)} {w : Nat → Int} {x y : Int} : ddR F w 0 x y = digR F w x y := by unfold ddR; rw [if_neg (show ¬ 0 = 2 by decide), if_neg (show ¬ 0 = 1 by decide), if_neg (show ¬ 0 = 3 by decide)]
theorem ddW_0 {F : Option (List Cls)} {w : Nat → Int} {x y : Int} : ddW F w 0 x y = digW F w x y := by unfold ddW; rw [if_neg (show ¬ 0 = 2 by decide), if_neg (show ¬ 0 = 1 by decide), if_neg (show ¬ 0 = 3 by decide)]
theorem ddR_1 {F : Option (List Cls)} {w : Nat → Int} {x y : Int} : ddR F w 1 x y = haulR F w x := by unfold ddR; rw [if_neg (show ¬ 1 = 2 by decide), if_pos rfl]
theorem ddW_1 {F : Option (List Cls)} {w : Nat → Int} {x y : Int} : ddW F w 1 x y = haulW F w x := by unfold ddW; rw [if_neg (show ¬ 1 = 2 by decide), if_pos rfl]
theorem ddR_2 {F : Option (List Cls)} {w : Nat → Int} {x y : Int} : ddR F w 2 x y = hushR w x := by unfold ddR; rw [if_pos rfl]
theorem ddW_2 {F : Option (List Cls)} {w : Nat → Int} {x y : Int} : ddW F w 2 x y = hushW w x := by unfold ddW; rw [if_pos rfl]
theorem ddR_3 {F : Option (List Cls)} {w : Nat → Int} {x y : Int} : ddR F w 3 x y = lieR w x y := by unfold ddR; rw [if_neg (show ¬ 3 = 2 by decide), if_neg (show ¬ 3 = 1 by decide), if_pos rfl]
theorem ddW_3 {F : Option (List Cls)} {w : Nat → Int} {x y : Int} : ddW F w 3 x y = lieW w x y := by unfold ddW; rw [if_neg (show ¬ 3 = 2 by decide), if_neg (show ¬ 3 = 1 by decide), if_pos rfl]
theorem x_act {a b d nU law br : Int32} {val sum : Int64} {row : Nat → Int32} {set : Nat → Int64} {nOp nArg : Nat → Int32} {rest now : Nat → Int64} {un so : Nat → Int32} {w : Nat → Int} {U : UL} {ls : Nat → List Cls} (hS : OMs nU br row un so w U ls) {k : Nat} (ha : a.toInt = (k : Int)) (hk : k ≤ 3) {Q : QAc} (hq : ∀ (r nU' law' br' : Int32) (val' sum' : Int64) (row' : Nat → Int32) (set' rest' : Nat → Int64) (un' so' : Nat → Int32), r.toInt = ddR (lawW w ls) w k b.toInt d.toInt → -3 ≤ r.toInt → OMs nU' br' row' un' so' (ddW (lawW w ls) w k b.toInt d.toInt) (rmU (ddR (lawW w ls) w k b.toInt d.toInt) (k : Int) w U) ls → (∀ j, 1696 ≤ j → un' j = un j) → Q r (nU', law', br', val', sum', row', set', rest', un', so')) : wp_X12_act a b d nU 0 law br val sum row set nOp nArg rest now un so Q := by
  obtain ⟨s1, s2, s3, s4, s5, s6, s7, s8⟩ := hS
  have h4 : k = 0 ∨ k = 1 ∨ k = 2 ∨ k = 3 := by omega
  unfold wp_X12_act
  rcases h4 with rfl | rfl | rfl | rfl
  · refine br1 (z_eq (y := 0) ha rfl rfl) (s_X12_digNowz b d nU 0 law br val sum row set nOp nArg rest now un so s1 (by decide) s2 s3 s4 s5 s6 s7 s8 (fun r u0 u1 u2 u3 u4 u5 u6 u7 u8 u9 H => un10_i ?_))
    obtain ⟨g1, g2, g3, g4, g5, g6, g7, g8, g9, g10, g11⟩ := H
    have e1 : ddR (lawW w ls) w 0 b.toInt d.toInt = _ := ddR_0
    have e2 : ddW (lawW w ls) w 0 b.toInt d.toInt = _ := ddW_0
    have z7 : r.toInt = ddR (lawW w ls) w 0 b.toInt d.toInt := by rw [e1]; exact g7
    have z8 : RMw u5 (ddW (lawW w ls) w 0 b.toInt d.toInt) := by rw [e2]; exact g8
    have z9 : RMu u8 u9 u0 (rmU (ddR (lawW w ls) w 0 b.toInt d.toInt) ((0 : Nat) : Int) w U) := by rw [e1]; exact g9
    exact hq _ _ _ _ _ _ _ _ _ _ _ z7 g1.1 ⟨g2, g3, g4, g5, g6, z8, z9, g10⟩ g11
  · refine br0 (z_ne (y := 0) ha rfl (by decide)) (br1 (z_eq (y := 1) ha rfl rfl) (s_X12_haulNowz b nU 0 law br val sum row un so set nOp nArg rest now s1 (by decide) s2 s3 s4 s5 s6 s7 s8 (fun r u0 u1 u2 u3 u4 u5 u6 u7 u8 u9 H => un10_i ?_)))
    obtain ⟨g1, g2, g3, g4, g5, g6, g7, g8, g9, g10, g11⟩ := H
    have e1 : ddR (lawW w ls) w 1 b.toInt d.toInt = _ := ddR_1
    have e2 : ddW (lawW w ls) w 1 b.toInt d.toInt = _ := ddW_1
    have z7 : r.toInt = ddR (lawW w ls) w 1 b.toInt d.toInt := by rw [e1]; exact g7
    have z8 : RMw u5 (ddW (lawW w ls) w 1 b.toInt d.toInt) := by rw [e2]; exact g8
    have z9 : RMu u6 u7 u0 (rmU (ddR (lawW w ls) w 1 b.toInt d.toInt) ((1 : Nat) : Int) w U) := by rw [e1]; exact g9
    exact hq _ _ _ _ _ _ _ _ _ _ _ z7 g1.1 ⟨g2, g3, g4, g5, g6, z8, z9, g10⟩ g11
  · refine br0 (z_ne (y := 0) ha rfl (by decide)) (br0 (z_ne (y := 1) ha rfl (by decide)) (br1 (z_eq (y := 2) ha rfl rfl) (s_X12_hushNowz b nU row un so s1 s3 s4 s5 s6 s7 s8 (fun r u0 u1 u2 u3 H => un4_i ?_))))
    obtain ⟨g1, g2, g4, g5, g6, g7, g8, g9, g10, g11⟩ := H
    have e1 : ddR (lawW w ls) w 2 b.toInt d.toInt = _ := ddR_2
    have e2 : ddW (lawW w ls) w 2 b.toInt d.toInt = _ := ddW_2
    have z7 : r.toInt = ddR (lawW w ls) w 2 b.toInt d.toInt := by rw [e1]; exact g7
    have z8 : RMw u1 (ddW (lawW w ls) w 2 b.toInt d.toInt) := by rw [e2]; exact g8
    have z9 : RMu u2 u3 u0 (rmU (ddR (lawW w ls) w 2 b.toInt d.toInt) ((2 : Nat) : Int) w U) := by rw [e1]; exact g9
    exact hq _ _ _ _ _ _ _ _ _ _ _ z7 g1.1 ⟨g2, s2, g4, g5, g6, z8, z9, g10⟩ g11
  · refine br0 (z_ne (y := 0) ha rfl (by decide)) (br0 (z_ne (y := 1) ha rfl (by decide)) (br0 (z_ne (y := 2) ha rfl (by decide)) (s_X12_lieNowz b d nU row un so s1 s3 s4 s5 s6 s7 s8 (fun r u0 u1 u2 u3 H => un4_i ?_))))
    obtain ⟨g1, g2, g4, g5, g6, g7, g8, g9, g10, g11⟩ := H
    have e1 : ddR (lawW w ls) w 3 b.toInt d.toInt = _ := ddR_3
    have e2 : ddW (lawW w ls) w 3 b.toInt d.toInt = _ := ddW_3
    have z7 : r.toInt = ddR (lawW w ls) w 3 b.toInt d.toInt := by rw [e1]; exact g7
    have z8 : RMw u1 (ddW (lawW w ls) w 3 b.toInt d.toInt) := by rw [e2]; exact g8
    have z9 : RMu u2 u3 u0 (rmU (ddR (lawW w ls) w 3 b.toInt d.toInt) ((3 : Nat) : Int) w U) := by rw [e1]; exact g9
    exact hq _ _ _ _ _ _ _ _ _ _ _ z7 g1.1 ⟨g2, s2, g4, g5, g6, z8, z9, g10⟩ g11
abbrev QRu : Type := Int32 → (Int32 × Int32 × Int32 × Int32 × Int64 × Int64 × Int32 × Int32 × Int32 × (Nat → Int32) × (Nat → Int64) × (Nat → Int64) × (Nat → Int64) × (Nat → Int32) × (Nat → Int32)) → Prop
theorem rnR_dd {F : Option (List Cls)} {w : Nat → Int} {cl : Cls} {v : Nat → Nat → Int64} {s t : Sem} {x y : Int64} (h3 : cl.1 ≤ 3) (hs : cl.2.1 = some s) (hx : s v = some x) (ht : cl.1 = 0 ∨ cl.1 = 3 → cl.2.2.1 = some t ∧ t v = some y) {z : Int} (hz : cl.1 = 0 ∨ cl.1 = 3 → z = vI y) : rnR F w cl v = ddR F w cl.1 (vI x) z ∧ rnW F w cl v = ddW F w cl.1 (vI x) z := by
  have b1 : cl.2.1.bind (fun s => s v) = some x := by rw [hs]; exact hx
  unfold ddR ddW
  by_cases c2 : cl.1 = 2
  · rw [if_pos c2, if_pos c2]; exact ⟨rnR_hush b1 c2, rnW_hush b1 c2⟩
  · rw [if_neg c2, if_neg c2]
    by_cases c1 : cl.1 = 1
    · rw [if_pos c1, if_pos c1]; exact ⟨rnR_haul b1 c1, rnW_haul b1 c1⟩
    · rw [if_neg c1, if_neg c1]
      obtain ⟨t1, t2⟩ := ht (by omega)
      have b2 : cl.2.2.1.bind (fun s => s v) = some y := by rw [t1]; exact t2
      rw [hz (by omega)]
      by_cases c3 : cl.1 = 3
      · rw [if_pos c3, if_pos c3]; exact ⟨rnR_lie b1 b2 c3, rnW_lie b1 b2 c3⟩
      · rw [if_neg c3, if_neg c3]; exact ⟨rnR_dig b1 b2 (by omega), rnW_dig b1 b2 (by omega)⟩
set_option maxHeartbeats 2000000 in
theorem x_run {a nU law br dn lt : Int32} {val sum : Int64} {row nO nOp nArg un so : Nat → Int32} {now rest set : Nat → Int64} {w : Nat → Int} {U : UL} {ls : Nat → List Cls} (hS : OMs nU br row un so w U ls) {k c : Nat} {cl : Cls} (ha : a.toInt = ((8 * k : Nat) : Int)) (hk : k < 12) (hc : c ≤ 400) (hCB : CB nOp nArg c) (hM : MO nO nOp nArg c k cl) (hok : okO cl) {Q : QRu}
    (h0 : rn1 ls cl (w, U, dn.toInt, lt.toInt) = none → ∀ (nU' law' br' : Int32) (val' sum' : Int64) (dn' lt' off' : Int32) (row' : Nat → Int32) (now' rest' set' : Nat → Int64) (un' so' : Nat → Int32), OMs nU' br' row' un' so' w U ls → (∀ j, 1696 ≤ j → un' j = un j) → Q (-3) (nU', 0, law', br', val', sum', dn', lt', off', row', now', rest', set', un', so'))
    (h1 : ∀ s, rn1 ls cl (w, U, dn.toInt, lt.toInt) = some s → ∀ (nU' law' br' : Int32) (val' sum' : Int64) (dn' lt' off' : Int32) (row' : Nat → Int32) (now' rest' set' : Nat → Int64) (un' so' : Nat → Int32), OMs nU' br' row' un' so' s.1 s.2.1 ls → dn'.toInt = s.2.2.1 → lt'.toInt = s.2.2.2 → (∀ j, 1696 ≤ j → un' j = un j) → Q 0 (nU', 0, law', br', val', sum', dn', lt', off', row', now', rest', set', un', so'))
    (hdn : 0 ≤ dn.toInt ∧ dn.toInt ≤ 100000) : wp_X12_run a nU 0 law br val sum dn lt row now nO nOp nArg rest set un so Q := by
  obtain ⟨m1, m2, m3, m4, _⟩ := hM
  obtain ⟨o1, ⟨s1, o2⟩, o3, o4, o5, o6⟩ := hok
  have hv := x_evMO (set := set) (now := now) (dn := dn) (lt := lt) hS.2.2.2.2.2.1 hS.2.2.1
  have a1 := add1 ha (by omega)
  have a3 : (a + 3).toInt = ((8 * k + 3 : Nat) : Int) := by rw [add_z ha (b := 3) (y := 3) rfl (by omega) (by omega)]; omega
  have a5 : (a + 5).toInt = ((8 * k + 5 : Nat) : Int) := by rw [add_z ha (b := 5) (y := 5) rfl (by omega) (by omega)]; omega
  have a6 : (a + 6).toInt = ((8 * k + 6 : Nat) : Int) := by rw [add_z ha (b := 6) (y := 6) rfl (by omega) (by omega)]; omega
  rw [o2] at m2
  -- behind the "if": its SUMS, its deed
  have tail : rnG cl.2.2.2.2 (ovW w dn.toInt lt.toInt) = true → ∀ (od' br' : Int32) (val' : Int64) (rest' : Nat → Int64), od' = 0 → (0 ≤ br'.toInt ∧ br'.toInt ≤ 1) → (un5 (fun (y_82_0 : Int32) (y_82_1 : Int32) (y_82_2 : Int64) (y_82_3 : Int32) (y_82_4 : Nat → Int64) => (wp_X12_sumOf (a + 1) y_82_0 law y_82_1 y_82_2 y_82_3 nO row nOp nArg y_82_4 (vp_updL (vp_updL (vp_updL now 1 (row (7 : Int32).toNatClampNeg).toInt64) 2 dn.toInt64) 3 lt.toInt64) set (fun (r_86 : Int32) => (un5 (fun (u_86_0 : Int32) (u_86_1 : Int32) (u_86_2 : Int64) (u_86_3 : Int32) (u_86_4 : Nat → Int64) => (wp_X12_sumOf (a + 3) u_86_0 law u_86_1 u_86_2 u_86_3 nO row nOp nArg u_86_4 (vp_updL (vp_updL (vp_updL now 1 (row (7 : Int32).toNatClampNeg).toInt64) 2 dn.toInt64) 3 lt.toInt64) set (fun (r_94 : Int32) => (un5 (fun (u_94_0 : Int32) (u_94_1 : Int32) (u_94_2 : Int64) (u_94_3 : Int32) (u_94_4 : Nat → Int64) => (if u_94_3 = 0 then (vp_in a 96 ∧ (wp_X12_act (nO a.toNatClampNeg) r_86 r_94 nU u_94_0 law u_94_1 u_94_2 sum row set nOp nArg u_94_4 (vp_updL (vp_updL (vp_updL now 1 (row (7 : Int32).toNatClampNeg).toInt64) 2 dn.toInt64) 3 lt.toInt64) un so (fun (r_117 : Int32) => (un10 (fun (u_117_0 : Int32) (u_117_1 : Int32) (u_117_2 : Int32) (u_117_3 : Int64) (u_117_4 : Int64) (u_117_5 : Nat → Int32) (u_117_6 : Nat → Int64) (u_117_7 : Nat → Int64) (u_117_8 : Nat → Int32) (u_117_9 : Nat → Int32) => (if 0 ≤ r_117 then (vp_in a 96 ∧ (if 2 ≤ (nO a.toNatClampNeg) then (Q 0 (u_117_0, u_94_0, u_117_1, u_117_2, u_117_3, u_117_4, (dn + 1), lt, u_94_3, u_117_5, (vp_updL (vp_updL (vp_updL now 1 (row (7 : Int32).toNatClampNeg).toInt64) 2 dn.toInt64) 3 lt.toInt64), u_117_7, u_117_6, u_117_8, u_117_9)) else (Q 0 (u_117_0, u_94_0, u_117_1, u_117_2, u_117_3, u_117_4, (dn + 1), r_117, u_94_3, u_117_5, (vp_updL (vp_updL (vp_updL now 1 (row (7 : Int32).toNatClampNeg).toInt64) 2 dn.toInt64) 3 lt.toInt64), u_117_7, u_117_6, u_117_8, u_117_9)))) else (Q (-3) (u_117_0, u_94_0, u_117_1, u_117_2, u_117_3, u_117_4, dn, lt, u_94_3, u_117_5, (vp_updL (vp_updL (vp_updL now 1 (row (7 : Int32).toNatClampNeg).toInt64) 2 dn.toInt64) 3 lt.toInt64), u_117_7, u_117_6, u_117_8, u_117_9)))))))) else (Q (-3) (nU, u_94_0, law, u_94_1, u_94_2, sum, dn, lt, u_94_3, row, (vp_updL (vp_updL (vp_updL now 1 (row (7 : Int32).toNatClampNeg).toInt64) 2 dn.toInt64) 3 lt.toInt64), u_94_4, set, un, so))))))))))))) (od', br', val', 0, rest') := fun hg od' br' val' rest' hod hbr => by
    subst hod
    have brk : rnR (lawW w ls) w cl (ovW w dn.toInt lt.toInt) = -3 → ∀ (x : Int64) (br2 : Int32) (r2 : Nat → Int64), (0 ≤ br2.toInt ∧ br2.toInt ≤ 1) → Q (-3) (nU, 0, law, br2, x, sum, dn, lt, 1, row, (vp_updL (vp_updL (vp_updL now 1 (row (7 : Int32).toNatClampNeg).toInt64) 2 dn.toInt64) 3 lt.toInt64), r2, set, un, so) := fun hb x br2 r2 hb2 =>
      h0 (rn1_f (s := (w, U, dn.toInt, lt.toInt)) hg (by rw [hb]; decide)) _ _ _ _ _ _ _ _ _ _ _ _ _ _ ⟨hS.1, hb2, hS.2.2⟩ (fun j _ => rfl)
    -- the deed
    have deed : ∀ (x : Int64) (z : Int32) (br2 : Int32) (v2 : Int64) (r2 : Nat → Int64), (0 ≤ br2.toInt ∧ br2.toInt ≤ 1) → rnR (lawW w ls) w cl (ovW w dn.toInt lt.toInt) = ddR (lawW w ls) w cl.1 (vI x) z.toInt ∧ rnW (lawW w ls) w cl (ovW w dn.toInt lt.toInt) = ddW (lawW w ls) w cl.1 (vI x) z.toInt → (vp_in a 96 ∧ (wp_X12_act (nO a.toNatClampNeg) x.toInt32 z nU 0 law br2 v2 sum row set nOp nArg r2 (vp_updL (vp_updL (vp_updL now 1 (row (7 : Int32).toNatClampNeg).toInt64) 2 dn.toInt64) 3 lt.toInt64) un so (fun (r_117 : Int32) => (un10 (fun (u_117_0 : Int32) (u_117_1 : Int32) (u_117_2 : Int32) (u_117_3 : Int64) (u_117_4 : Int64) (u_117_5 : Nat → Int32) (u_117_6 : Nat → Int64) (u_117_7 : Nat → Int64) (u_117_8 : Nat → Int32) (u_117_9 : Nat → Int32) => (if 0 ≤ r_117 then (vp_in a 96 ∧ (if 2 ≤ (nO a.toNatClampNeg) then (Q 0 (u_117_0, 0, u_117_1, u_117_2, u_117_3, u_117_4, (dn + 1), lt, 0, u_117_5, (vp_updL (vp_updL (vp_updL now 1 (row (7 : Int32).toNatClampNeg).toInt64) 2 dn.toInt64) 3 lt.toInt64), u_117_7, u_117_6, u_117_8, u_117_9)) else (Q 0 (u_117_0, 0, u_117_1, u_117_2, u_117_3, u_117_4, (dn + 1), r_117, 0, u_117_5, (vp_updL (vp_updL (vp_updL now 1 (row (7 : Int32).toNatClampNeg).toInt64) 2 dn.toInt64) 3 lt.toInt64), u_117_7, u_117_6, u_117_8, u_117_9)))) else (Q (-3) (u_117_0, 0, u_117_1, u_117_2, u_117_3, u_117_4, dn, lt, 0, u_117_5, (vp_updL (vp_updL (vp_updL now 1 (row (7 : Int32).toNatClampNeg).toInt64) 2 dn.toInt64) 3 lt.toInt64), u_117_7, u_117_6, u_117_8, u_117_9)))))))) := fun x z br2 v2 r2 hb2 hd => by
      have va : vp_in a 96 := vpi ha (by omega) (by omega)
      refine ⟨va, ?_⟩
      rw [tnN ha]
      refine x_act (U := U) ⟨hS.1, hb2, hS.2.2⟩ m1 o1 (fun r nU' law' br' val' sum' row' set' rest' un' so' g1 g2 g3 g4 => un10_i ?_)
      have d1 : (dn + 1).toInt = dn.toInt + 1 := add_z rfl (b := 1) (y := 1) rfl (by omega) (by omega)
      have e1 : r.toInt = rnR (lawW w ls) w cl (ovW w dn.toInt lt.toInt) := g1.trans hd.1.symm
      have g3 : OMs nU' br' row' un' so' (rnW (lawW w ls) w cl (ovW w dn.toInt lt.toInt)) (rmU (rnR (lawW w ls) w cl (ovW w dn.toInt lt.toInt)) (cl.1 : Int) w U) ls := by rw [hd.1, hd.2]; exact g3
      by_cases c0 : 0 ≤ r
      · have c0' := le_z (x := 0) rfl rfl c0
        rw [rmU_p (by omega)] at g3
        have R1 := rn1_g (s := (w, U, dn.toInt, lt.toInt)) hg (by show 0 ≤ rnR (lawW w ls) w cl (ovW w dn.toInt lt.toInt); omega)
        refine br1 c0 ⟨va, ?_⟩
        by_cases c2 : 2 ≤ nO (8 * k)
        · have c2' := le_z (x := 2) rfl m1 c2
          exact br1 c2 (h1 _ R1 _ _ _ _ _ _ _ _ _ _ _ _ _ _ g3 d1 (by show lt.toInt = if cl.1 < 2 then _ else lt.toInt; rw [if_neg (by omega)]) g4)
        · have c2' := nle_z (x := 2) rfl m1 c2
          exact br0 c2 (h1 _ R1 _ _ _ _ _ _ _ _ _ _ _ _ _ _ g3 d1 (by show r.toInt = if cl.1 < 2 then rnR (lawW w ls) w cl (ovW w dn.toInt lt.toInt) else lt.toInt; rw [if_pos (by omega)]; exact e1) g4)
      · have c0' := nle_z (x := 0) rfl rfl c0
        have hn : rnR (lawW w ls) w cl (ovW w dn.toInt lt.toInt) < 0 := by omega
        rw [rmU_n hn] at g3
        refine br0 c0 (h0 (rn1_f (s := (w, U, dn.toInt, lt.toInt)) hg hn) _ _ _ _ _ _ _ _ _ _ _ _ _ _ ?_ g4)
        have ew : rnW (lawW w ls) w cl (ovW w dn.toInt lt.toInt) = w := rnW_n hn
        rw [ew] at g3; exact g3
    refine un5_i (x_sumOf1 hv hc hCB a1 (by omega) m2 (fun x hx rest2 => un5_i ?_) (fun hn x rest2 => un5_i (x_sumOfB (un5_i (br0 (by decide) (brk (rnR_0 (by rw [o2]; exact hn)) _ _ _ (by decide)))))))
    by_cases c : cl.1 = 0 ∨ cl.1 = 3
    · obtain ⟨s2, ht⟩ := o3 c
      rw [ht] at m3
      refine x_sumOf1 hv hc hCB a3 (by omega) m3 (fun y hy rest3 => un5_i (br1 rfl ?_)) (fun hn y rest3 => un5_i (br0 (by decide) (brk (rnR_1 (by rw [o2]; exact hx) (by rw [ht]; exact hn) ⟨by omega, by omega⟩) _ _ _ (by decide))))
      exact deed x y.toInt32 0 y rest3 (by decide) (rnR_dd o1 o2 hx (fun _ => ⟨ht, hy⟩) (fun _ => rfl))
    · rw [o4 (by omega)] at m3
      refine x_sumOf0 a3 (by omega) m3 (un5_i (br1 rfl ?_))
      exact deed x (-1) 0 x rest2 (by decide) (rnR_dd (t := s1) (y := x) o1 o2 hx (fun q => absurd q c) (fun q => absurd q c))
  unfold wp_X12_run
  refine ⟨vpi a5 (by omega) (by omega), vpi a6 (by omega) (by omega), jn_s ?_⟩
  rw [tnN a5, tnN a6]
  cases ct : cl.2.2.2.2 with
  | none =>
    rw [ct] at m4
    have m4 : nO (8 * k + 5) = nO (8 * k + 6) := m4
    exact br1 (z_le rfl rfl (by rw [m4]; exact Int.le_refl _)) (tail (by rw [ct]; rfl) 0 br val rest rfl hS.2.1)
  | some t =>
    have m4' := m4
    rw [ct] at m4
    obtain ⟨q, E, kk, y1, y2, y3, y4, y5⟩ := id m4
    have qE := y4.1
    have skip : ¬ rnG cl.2.2.2.2 (ovW w dn.toInt lt.toInt) = true → ∀ (br2 : Int32) (v2 : Int64) (off : Int32) (r2 : Nat → Int64), (0 ≤ br2.toInt ∧ br2.toInt ≤ 1) → Q 0 (nU, 0, law, br2, v2, sum, dn, lt, off, row, (vp_updL (vp_updL (vp_updL now 1 (row (7 : Int32).toNatClampNeg).toInt64) 2 dn.toInt64) 3 lt.toInt64), r2, set, un, so) := fun hg br2 v2 off r2 hb2 =>
      h1 _ (rn1_s (s := (w, U, dn.toInt, lt.toInt)) hg) _ _ _ _ _ _ _ _ _ _ _ _ _ _ ⟨hS.1, hb2, hS.2.2⟩ rfl rfl (fun j _ => rfl)
    refine br0 (z_nle y2 y1 (by omega)) (x_sumOf1 hv hc hCB a5 (by omega) m4 (fun x hx rest2 => un5_i (br1 rfl ?_)) (fun hn x rest2 => un5_i (br0 (by decide) ?_)))
    · rcases vI_01 (o6 t ct _ x hx) with ⟨b1, b2⟩ | ⟨b1, b2⟩
      · refine br0 (z_ne (y := 0) b1 rfl (by decide)) (tail ?_ 0 0 x rest2 rfl (by decide))
        rw [ct]; exact rnG_s.mpr (by rw [hx, b2])
      · refine br1 (z_eq (y := 0) b1 rfl rfl) (skip ?_ _ _ _ _ (by decide))
        rw [ct]
        exact fun g => by have := rnG_s.mp g; rw [hx, b2] at this; injection this with this; exact absurd this (by decide)
    · refine skip ?_ _ _ _ _ (by decide)
      rw [ct]
      exact fun g => by have := rnG_s.mp g; rw [hn] at this; cases this
