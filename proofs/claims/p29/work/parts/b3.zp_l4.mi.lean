/-! feed of both sides, images of the reference: exactly -/
theorem by4_r (v : Int32) (k : Nat) : 0 ≤ (by4 v k).toInt ∧ (by4 v k).toInt ≤ 255 := and_z (by decide)
theorem BY.f4 {v : Int32} {n i : Nat} {f : Nat → Int32} (h : BY f) : BY (f4I v n i f) := by
  intro j q hq k1 k2
  unfold f4I
  by_cases c : n ≤ j ∧ j < n + i
  · rw [if_pos c]
    have r := by4_r v (j - n)
    simp only [BYT, List.mem_cons, List.not_mem_nil, or_false] at hq
    rcases hq with rfl
    exact r
  · rw [if_neg c]; exact h j q hq k1 k2
theorem TP.f4 {v : Int32} {n i : Nat} {f : Nat → Int32} (h : TP f) : TP (f4I v n i f) := by
  intro j q hq k1 k2
  unfold f4I
  by_cases c : n ≤ j ∧ j < n + i
  · rw [if_pos c]
    have r := by4_r v (j - n)
    simp only [TPT, List.mem_cons, List.not_mem_nil, or_false] at hq
    rcases hq with rfl
    exact r
  · rw [if_neg c]; exact h j q hq k1 k2
def fdI (a b d g k : Int32) (n : Nat) (f : Nat → Int32) : Nat → Int32 := f4I k (n + 4 + 4 + 4 + 4) 4 (f4I g (n + 4 + 4 + 4) 4 (f4I d (n + 4 + 4) 4 (f4I b (n + 4) 4 (f4I a n 4 f))))
def fdT (a b d g k x : Int32) (f : Nat → Int32) : Nat → Int32 := if x.toInt + 20 ≤ 400 then fdI a b d g k x.toInt.toNat f else f
theorem BY.fd {a b d g k x : Int32} {f : Nat → Int32} (h : BY f) : BY (fdT a b d g k x f) := by
  unfold fdT fdI
  split
  · exact h.f4.f4.f4.f4.f4
  · exact h
theorem TP.fd {a b d g k x : Int32} {f : Nat → Int32} (h : TP f) : TP (fdT a b d g k x f) := by
  unfold fdT fdI
  split
  · exact h.f4.f4.f4.f4.f4
  · exact h
theorem fdT_p {a b d g k x : Int32} {f : Nat → Int32} {n : Nat} (hn : x.toInt = (n : Int)) (h : x.toInt + 20 ≤ 400) : fdT a b d g k x f = fdI a b d g k n f := by
  unfold fdT
  rw [if_pos h, hn, Int.toNat_natCast]
theorem fdT_n {a b d g k x : Int32} {f : Nat → Int32} (h : ¬ x.toInt + 20 ≤ 400) : fdT a b d g k x f = f := if_neg h
theorem x_feedx {a b d g k x : Int32} {f : Nat → Int32} (hx : 0 ≤ x.toInt ∧ x.toInt ≤ 400) {Q : Int32 → (Int32 × (Nat → Int32)) → Prop} (hq : Q (fdR x) (fdL x, fdT a b d g k x f)) : wp_X11_feed a b d g k x f Q := by
  unfold wp_X11_feed
  have t2 : (x + 20).toInt = x.toInt + 20 := add_z rfl rfl (by omega) (by omega)
  by_cases c : (x + 20) ≤ 400
  · have c' := le_z t2 (y := 400) rfl c
    obtain ⟨n, hn⟩ : ∃ n : Nat, x.toInt = (n : Int) := ⟨x.toInt.toNat, by omega⟩
    refine br1 c (x_addFour hn (by omega) (fun t1 h1 => un2_i (x_addFour h1 (by omega) (fun t2 h2 => un2_i (x_addFour h2 (by omega) (fun t3 h3 => un2_i (x_addFour h3 (by omega) (fun t4 h4 => un2_i (x_addFour h4 (by omega) (fun t5 h5 => un2_i ?_))))))))))
    have e := fd_p (x := x) (r := t5) (u := t5) (by omega) (by omega) (by omega) rfl
    rw [fdT_p hn (by omega), ← e.1, ← e.2] at hq
    exact hq
  · have c' := nle_z t2 (y := 400) rfl c
    have e := fd_n (x := x) (by omega)
    rw [fdT_n (by omega), ← e.1, ← e.2] at hq
    exact br0 c hq
theorem x_feedm {a b d g k x : Int32} {f : Nat → Int32} (hx : 0 ≤ x.toInt ∧ x.toInt ≤ 400) {Q : Int32 → (Int32 × Int32 × (Nat → Int32)) → Prop} (hq : Q (fdR x) (0, fdL x, fdT a b d g k x f)) : wp_X12_feed a b d g k x f Q := by
  unfold wp_X12_feed
  have t2 : (x + 20).toInt = x.toInt + 20 := add_z rfl rfl (by omega) (by omega)
  by_cases c : (x + 20) ≤ 400
  · have c' := le_z t2 (y := 400) rfl c
    obtain ⟨n, hn⟩ : ∃ n : Nat, x.toInt = (n : Int) := ⟨x.toInt.toNat, by omega⟩
    refine br1 c (x_four hn (by omega) (fun t1 h1 => un2_i (x_four h1 (by omega) (fun t2 h2 => un2_i (x_four h2 (by omega) (fun t3 h3 => un2_i (x_four h3 (by omega) (fun t4 h4 => un2_i (x_four h4 (by omega) (fun t5 h5 => un2_i ?_))))))))))
    have e := fd_p (x := x) (r := t5) (u := t5) (by omega) (by omega) (by omega) rfl
    rw [fdT_p hn (by omega), ← e.1, ← e.2] at hq
    exact hq
  · have c' := nle_z t2 (y := 400) rfl c
    have e := fd_n (x := x) (by omega)
    rw [fdT_n (by omega), ← e.1, ← e.2] at hq
    exact br0 c hq
/-! images of the reference -/
theorem RML.cong {f g : Nat → Int32} {ls : Nat → List Cls} (hR : RLW f) (h : RML f ls) (e : ∀ j, j < 5650 → g j = f j) : RML g ls := by
  have h5 := hR.at_5 (n := 5) (z := 5) rfl (by decide) (by decide)
  refine ⟨by rw [e 6 (by decide), e 5 (by decide)]; exact h.1, fun k hk => ?_⟩
  rw [e 5 (by decide)] at hk
  exact ⟨(h.2 k hk).1.ext (fun j h2 h3 => e j (by omega)), (h.2 k hk).2⟩
theorem RMw.cong {f g : Nat → Int32} {w : Nat → Int} (h : RMw f w) (e : ∀ j, j < 5650 → g j = f j) : RMw g w := fun j hj => by rw [e j (by omega)]; exact h j hj
/-- what is kept of the reference, as plain numbers -/
def IMz (kp im : Nat → Int32) (WI : Nat → Nat → Int) (LI : Nat → Nat → List Cls) : Prop := ∀ k : Nat, k < 2 → ¬ kp k = 0 → RMw (fun j => im (5650 * k + j)) (WI k) ∧ RML (fun j => im (5650 * k + j)) (LI k)
def imgL (a k : Int) (ls L : Nat → List Cls) : Nat → List Cls := if a = k then ls else L
theorem imgL_y {a k : Int} {w W : Nat → List Cls} (h : a = k) : imgL a k w W = w := if_pos h
theorem imgL_n {a k : Int} {w W : Nat → List Cls} (h : ¬ a = k) : imgL a k w W = W := if_neg h
def bakL (kp : Nat → Int32) (a : Int) (L0 L1 ls : Nat → List Cls) : Nat → List Cls := if bakR kp a < 0 then ls else if a = 0 then L0 else L1
theorem x_mimage {a : Int32} {row im kept rfs rf : Nat → Int32} {w : Nat → Int} {ls : Nat → List Cls} {WI : Nat → Nat → Int} {LI : Nat → Nat → List Cls} (hR : RLW row) (hI : IM kept im) (hW : RMw row w) (hL : RML row ls) (hZ : IMz kept im WI LI) (hf : RF rfs rf) {Q : Int32 → (Int32 × Int32 × (Nat → Int32) × (Nat → Int32) × (Nat → Int32)) → Prop} (hq : ∀ (r st : Int32) (im' rfs' : Nat → Int32), r = imR a → r.toInt = imgR a.toInt → st.toInt = tlS (imgR a.toInt) → RF rfs' (tlR rf (imgR a.toInt)) → IM (kpI a kept) im' → IMz (kpI a kept) im' (fun k => imgW a.toInt (k : Int) w (WI k)) (fun k => imgL a.toInt (k : Int) ls (LI k)) → Q r (0, st, im', kpI a kept, rfs')) : wp_X12_image a row im kept rfs Q := by
  unfold wp_X12_image
  have ea : a.toInt64.toInt = a.toInt := i2l_z rfl
  have z0 : (0 : Int64).toInt = 0 := rfl
  have z1 : (1 : Int64).toInt = 1 := rfl
  refine e_in (fun g1 g2 => br0 (by decide) ?_) (fun g => br1 rfl ?_)
  · obtain ⟨k, hk⟩ : ∃ k : Nat, a.toInt = (k : Int) := ⟨a.toInt.toNat, by omega⟩
    have e0 : imgR a.toInt = 0 := imgR_y (by omega) (by omega)
    have eR : imR a = 0 := by unfold imR; rw [if_pos (by omega)]
    have ek : upd kept a.toNatClampNeg 1 = kpI a kept := kp_p (by omega) (by omega)
    refine sl_im23 hk (by omega) (fun x im' h1 h2 => ?_) _ 0 0 im rfl (by omega) (by omega) (fun j hj => by omega) (fun j _ => rfl)
    refine ⟨vpi hk (by omega) (by omega), s_X12_tellz 0 rfs (by decide) hf (fun r s f H => un2_i ?_)⟩
    have hr : r.toInt = 0 := H.1
    have hr' : r = imR a := by rw [eR]; exact Int32.toInt_inj.mp hr
    have hs := H.2.1
    have hF := H.2.2
    rw [hr] at hs hF
    rw [ek]
    have kq : ∀ k2 : Nat, ¬ k2 = k → kpI a kept k2 = kept k2 := fun k2 h => by rw [← ek, tnN hk]; exact pk_un h
    refine hq r s im' f hr' (by rw [hr, e0]) (by rw [e0]; exact hs) (by rw [e0]; exact hF) (fun k2 h k3 => ?_) (fun k2 h k3 => ?_)
    · by_cases e : k2 = k
      · subst e
        exact RW.cong hR (fun j hj => h1 j hj)
      · rw [kq k2 e] at k3
        exact RW.cong (hI k2 h k3) (fun j hj => h2 _ (by omega))
    · show RMw _ (imgW a.toInt (k2 : Int) w (WI k2)) ∧ RML _ (imgL a.toInt (k2 : Int) ls (LI k2))
      by_cases e : k2 = k
      · subst e
        rw [imgW_y hk, imgL_y hk]
        exact ⟨hW.cong (fun j hj => h1 j hj), hL.cong hR (fun j hj => h1 j hj)⟩
      · rw [kq k2 e] at k3
        rw [imgW_n (by omega), imgL_n (by omega)]
        exact ⟨(hZ k2 h k3).1.cong (fun j hj => h2 _ (by omega)), (hZ k2 h k3).2.cong (hI k2 h k3) (fun j hj => h2 _ (by omega))⟩
  · have e0 : imgR a.toInt = -1 := imgR_n (by omega)
    have eR : imR a = -1 := by unfold imR; rw [if_neg (by omega)]
    have ek : kept = kpI a kept := kp_n (by omega)
    refine s_X12_tellz (-1) rfs (by decide) hf (fun r s f H => un2_i ?_)
    have hr : r.toInt = -1 := H.1
    have hr' : r = imR a := by rw [eR]; exact Int32.toInt_inj.mp hr
    have hs := H.2.1
    have hF := H.2.2
    rw [hr] at hs hF
    have Z : IMz (kpI a kept) im (fun k => imgW a.toInt (k : Int) w (WI k)) (fun k => imgL a.toInt (k : Int) ls (LI k)) := by
      rw [← ek]
      intro k2 h k3
      show RMw _ (imgW a.toInt (k2 : Int) w (WI k2)) ∧ RML _ (imgL a.toInt (k2 : Int) ls (LI k2))
      rw [imgW_n (by omega), imgL_n (by omega)]
      exact hZ k2 h k3
    have I2 : IM (kpI a kept) im := by rw [← ek]; exact hI
    have q := hq r s im f hr' (by rw [hr, e0]) (by rw [e0]; exact hs) (by rw [e0]; exact hF) I2 Z
    rw [← ek] at q
    exact q
theorem x_settled {a nU : Int32} {f rf : Nat → Int32} (h : -6 ≤ a.toInt ∧ a.toInt < 0 ∨ a.toInt = 0) (hf : RF f rf) {Q : Int32 → (Int32 × Int32 × (Nat → Int32)) → Prop} (hq : ∀ (s n : Int32) (f' : Nat → Int32), s.toInt = tlS a.toInt → (a.toInt = 0 → n.toInt = 0) → (a.toInt < 0 → n = nU) → RF f' (tlR rf a.toInt) → Q a (s, n, f')) : wp_X12_settled a nU f Q := by
  unfold wp_X12_settled
  by_cases c : 0 ≤ a
  · have c' := le_z (x := 0) rfl rfl c
    exact br1 c (s_X12_tellz a f (by omega) hf (fun r s f' H => un2_i (by have e : r = a := Int32.toInt_inj.mp H.1; have h2 := H.2.1; have h3 := H.2.2; rw [e] at h2 h3 ⊢; exact hq _ _ _ h2 (fun _ => rfl) (fun q => by omega) h3)))
  · have c' := nle_z (x := 0) rfl rfl c
    exact br0 c (s_X12_tellz a f (by omega) hf (fun r s f' H => un2_i (by have e : r = a := Int32.toInt_inj.mp H.1; have h2 := H.2.1; have h3 := H.2.2; rw [e] at h2 h3 ⊢; exact hq _ _ _ h2 (fun q => by omega) (fun _ => rfl) h3)))
theorem bakR_z {kp : Nat → Int32} {a : Int32} : (bkR a kp).toInt = bakR kp a.toInt := by
  unfold bkR bakR
  by_cases c : 0 ≤ a.toInt ∧ a.toInt ≤ 1
  · rw [if_pos c, if_neg (show ¬ (a.toInt < 0 ∨ 2 ≤ a.toInt) by omega)]
    by_cases d : kp a.toNatClampNeg = 0
    · have d' : kp a.toInt.toNat = 0 := d
      rw [if_pos d, if_pos d']; rfl
    · have d' : ¬ kp a.toInt.toNat = 0 := d
      rw [if_neg d, if_neg d']; rfl
  · rw [if_neg c, if_pos (show a.toInt < 0 ∨ 2 ≤ a.toInt by omega)]; rfl
theorem x_mback {a nU : Int32} {kept im row rfs rf un so : Nat → Int32} {w : Nat → Int} {ls : Nat → List Cls} {U : UL} {WI : Nat → Nat → Int} {LI : Nat → Nat → List Cls} (hR : RLW row) (hI : IM kept im) (hU : 0 ≤ nU.toInt ∧ nU.toInt ≤ 16) (hW : RMw row w) (hL : RML row ls) (hZ : IMz kept im WI LI) (hf : RF rfs rf) (hu : RMu un so nU U) {Q : Int32 → (Int32 × Int32 × Int32 × (Nat → Int32) × (Nat → Int32)) → Prop} (hq : ∀ (r st n : Int32) (row' rfs' : Nat → Int32), r = bkR a kept → st.toInt = tlS (bakR kept a.toInt) → (0 ≤ n.toInt ∧ n.toInt ≤ 16) → RLW row' → RMw row' (bakW kept a.toInt (WI 0) (WI 1) w) → RML row' (bakL kept a.toInt (LI 0) (LI 1) ls) → RMu un so n (bakU kept a.toInt U) → RF rfs' (tlR rf (bakR kept a.toInt)) → Q r (0, st, n, row', rfs')) : wp_X12_back a nU kept im row rfs Q := by
  unfold wp_X12_back
  have ea : a.toInt64.toInt = a.toInt := i2l_z rfl
  have z0 : (0 : Int64).toInt = 0 := rfl
  have z1 : (1 : Int64).toInt = 1 := rfl
  have bz := bakR_z (kp := kept) (a := a)
  have no : ∀ z : Int32, -6 ≤ z.toInt ∧ z.toInt < 0 → bkR a kept = z → wp_X12_tell z rfs (fun r_17 => un2 (fun (u_17_0 : Int32) (u_17_1 : Nat → Int32) => Q r_17 (0, u_17_0, nU, row, u_17_1))) := by
    intro z hz e
    have e' : bakR kept a.toInt = z.toInt := by rw [← bz, e]
    refine s_X12_tellz z rfs (by omega) hf (fun r s f H => un2_i ?_)
    have hr : r = z := Int32.toInt_inj.mp H.1
    have h2 := H.2.1
    have h3 := H.2.2
    rw [hr] at h2 h3 ⊢
    have n1 : bakR kept a.toInt < 0 := by omega
    exact hq z s nU row f e.symm (by rw [e']; exact h2) hU hR (by unfold bakW; rw [if_pos n1]; exact hW) (by unfold bakL; rw [if_pos n1]; exact hL) (by unfold bakU; rw [if_pos n1]; exact hu) (by rw [e']; exact h3)
  refine e_in (fun g1 g2 => br0 (by decide) ?_) (fun g => br1 rfl (no (-1) (by decide) (bk_n (a := a) (f := kept) (by omega)).symm))
  obtain ⟨k, hk⟩ : ∃ k : Nat, a.toInt = (k : Int) := ⟨a.toInt.toNat, by omega⟩
  refine ⟨vpi hk (by omega) (by omega), ?_⟩
  by_cases c : kept a.toNatClampNeg = 0
  · exact br1 c (no (-2) (by decide) (bk_0 (a := a) (f := kept) (by omega) (by omega) c).symm)
  · refine br0 c (sl_ba39 hk (by omega) (fun x row' h1 => ?_) _ 0 0 row rfl (by omega) (by omega) (fun j hj => by omega))
    have er : bkR a kept = 0 := (bk_1 (a := a) (f := kept) (by omega) (by omega) c).symm
    have e' : bakR kept a.toInt = 0 := by rw [← bz, er]; rfl
    have n1 : ¬ bakR kept a.toInt < 0 := by omega
    have ck : ¬ kept k = 0 := by rw [tnN hk] at c; exact c
    have R2 : RLW row' := RW.cong (hI k (by omega) ck) (fun j hj => h1 j hj)
    have W2 : RMw row' (WI k) := (hZ k (by omega) ck).1.cong (fun j hj => h1 j hj)
    have L2 : RML row' (LI k) := (hZ k (by omega) ck).2.cong (hI k (by omega) ck) (fun j hj => h1 j hj)
    refine x_settled (Or.inr rfl) hf (fun s n f h2 h3 h4 h5 => un3_i ?_)
    have n0 : n.toInt = 0 := h3 rfl
    have W3 : RMw row' (bakW kept a.toInt (WI 0) (WI 1) w) := by
      unfold bakW
      rw [if_neg n1]
      by_cases e0 : a.toInt = 0
      · have : k = 0 := by omega
        subst this
        rw [if_pos e0]; exact W2
      · have : k = 1 := by omega
        subst this
        rw [if_neg e0]; exact W2
    have L3 : RML row' (bakL kept a.toInt (LI 0) (LI 1) ls) := by
      unfold bakL
      rw [if_neg n1]
      by_cases e0 : a.toInt = 0
      · have : k = 0 := by omega
        subst this
        rw [if_pos e0]; exact L2
      · have : k = 1 := by omega
        subst this
        rw [if_neg e0]; exact L2
    exact hq 0 s n row' f er.symm (by rw [e']; exact h2) (by omega) R2 W3 L3 (by unfold bakU; rw [if_neg n1]; exact RMu.nil n0) (by rw [e']; exact h5)
