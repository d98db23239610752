/-! the reference's ORDERS: the loop -/
set_option maxHeartbeats 1000000 in
theorem x_motx {tp : Nat → Int32} {n : Nat} {st en : Nat → Nat} {T : Nat → Int} (hL : Lex tp n st en T) {taped : Int32} (hn : taped.toInt = (n : Int)) (h4 : n ≤ 400) {words oW acts : Nat → Int64} (hW : hasW words oW) (hAc : hasA acts) {fault : Int32} {Qb : KLw} : ∀ (m fu C i l c : Nat) (acc : List Cls) (nc fr to sort : Int32) (worth : Int64) (nC nL pd od : Int32) (f pile op ar pat : Nat → Int32), m + 1 ≤ fu → C + m = 12 → acc.length = C → nc.toInt = (C : Int) → fr.toInt = (st i : Int) → to.toInt = (en i : Int) → MT (T i) sort worth → nL.toInt = (l : Int) → l ≤ 50 → nC.toInt = (c : Int) → c ≤ st i → CB op ar c → MOs f op ar c 0 acc →
    (∀ (J c' : Nat) (L : List Cls) (nc' fr' to' sort' : Int32) (w' : Int64) (nC' nL' pd' od' : Int32) (f' pile' op' ar' pat' : Nat → Int32), rd_txt T (rd_order T) m i l acc = (decide (T J = 31), J, L) → ¬ T J = 159 → L.length ≤ 12 → nc'.toInt = (L.length : Int) → fr'.toInt = (st J : Int) → to'.toInt = (en J : Int) → MT (T J) sort' w' → nC'.toInt = (c' : Int) → c' ≤ 400 → CB op' ar' c' → MOs f' op' ar' c' 0 L → Qb fr' to' sort' w' fault 0 nc' nC' nL' pd' od' f' pile' op' ar' pat') →
    (∀ (J : Nat) (L : List Cls), rd_txt T (rd_order T) m i l acc = (false, J, L) → ∀ (nc' fr' to' sort' : Int32) (w' : Int64) (fault' nC' nL' pd' od' : Int32) (f' pile' op' ar' pat' : Nat → Int32), fault'.toInt = (st J : Int) → Qb fr' to' sort' w' fault' 1 nc' nC' nL' pd' od' f' pile' op' ar' pat') →
    wp_X12_readOrder taped fr to sort worth fault 0 1 nc nC nL pd od acts tp f pile op ar pat words oW (un16 (fun u0 u1 u2 u3 u4 u5 u6 u7 u8 u9 u10 u11 u12 u13 u14 u15 => wl_X12_orders_19 taped tp acts words oW 1 Qb fu u0 u1 u2 u3 u4 u5 u6 u7 u8 u9 u10 u11 u12 u13 u14 u15)) := by
  have stop : ∀ (fu : Nat) (nc' fr' to' sort' : Int32) (w' : Int64) (fault' nC' nL' pd' od' : Int32) (f' pile' op' ar' pat' : Nat → Int32), Qb fr' to' sort' w' fault' 1 nc' nC' nL' pd' od' f' pile' op' ar' pat' → wl_X12_orders_19 taped tp acts words oW 1 Qb (fu + 1) fr' to' sort' w' fault' 1 nc' nC' nL' pd' od' f' pile' op' ar' pat' := fun fu nc' fr' to' sort' w' fault' nC' nL' pd' od' f' pile' op' ar' pat' h => by
    unfold wl_X12_orders_19
    exact br0 (by decide) h
  intro m
  induction m with
  | zero =>
    intro fu C i l c acc nc fr to sort worth nC nL pd od f pile op ar pat hfu hCm hacc hC k1 k2 k3 hl hl5 hc hci hCB hM hA hB
    obtain ⟨fu, rfl⟩ : ∃ g, fu = g + 1 := ⟨fu - 1, by omega⟩
    refine x_readOrder hL hn h4 hW hC k1 k2 k3 hl hl5 hc hci hCB hAc (fun q => by omega) (fun q => by omega) (fun _ fr' to' sort' w' fault' nC' nL' pd' od' nc' f' pile' op' ar' pat' p1 => un16_i (stop _ _ _ _ _ _ _ _ _ _ _ _ _ _ _ _ (hB i acc rfl _ _ _ _ _ _ _ _ _ _ _ _ _ _ _ p1)))
  | succ m ih =>
    intro fu C i l c acc nc fr to sort worth nC nL pd od f pile op ar pat hfu hCm hacc hC k1 k2 k3 hl hl5 hc hci hCB hM hA hB
    obtain ⟨fu, rfl⟩ : ∃ g, fu = g + 1 := ⟨fu - 1, by omega⟩
    rw [txt_s] at hA hB
    refine x_readOrder hL hn h4 hW hC k1 k2 k3 hl hl5 hc hci hCB hAc (fun _ z fr' to' sort' w' nC' nL' pd' od' f' pile' op' ar' pat' c' p1 p2 p3 p4 p5 p6 p7 p8 p9 p10 p11 => un16_i ?_) (fun _ z fr' to' sort' w' fault' nC' nL' pd' od' nc' f' pile' op' ar' pat' p1 => un16_i (stop _ _ _ _ _ _ _ _ _ _ _ _ _ _ _ _ ?_)) (fun q => by omega)
    · rw [if_pos z] at hA hB
      have hSj := hL.st (rd_order T i l).2.1
      have hM2 : MOs f' op' ar' c' 0 (acc ++ [(rd_order T i l).2.2.2]) := by
        refine MOs.app acc 0 (MOs.ext (C := C) p6 p10 p11 acc 0 (by omega) hM) ?_
        rw [Nat.zero_add, hacc]; exact p9
      have hl2 : (acc ++ [(rd_order T i l).2.2.2]).length = C + 1 := by rw [List.length_append, hacc]; rfl
      have nc1 := add1 hC (by omega)
      unfold wl_X12_orders_19
      refine br1 rfl (mt_sign p3 (z := 59) rfl (by decide) (by decide) (fun e => br0 (by decide) ?_) (fun e => br1 rfl ?_))
      · have e : T (rd_order T i l).2.1 = 159 := e
        rw [if_neg (by omega), if_pos e] at hA hB
        have hX := hL.nx (i := (rd_order T i l).2.1) (by omega)
        refine x_next hL hn h4 p2 (fun fr2 to2 sort2 w2 m1 m2 m3 => un4_i ?_)
        have l50 := OLc.order i l z hl5
        exact ih fu (C + 1) ((rd_order T i l).2.1 + 1) (rd_order T i l).2.2.1 c' _ (nc + 1) fr2 to2 sort2 w2 nC' nL' pd' od' f' pile' op' ar' pat' (by omega) (by omega) hl2 nc1 m1 m2 m3 p4 l50 p5 (by omega) p8 hM2 hA hB
      · have e : ¬ T (rd_order T i l).2.1 = 159 := e
        refine hA (rd_order T i l).2.1 c' (acc ++ [(rd_order T i l).2.2.2]) (nc + 1) _ _ _ _ _ _ _ _ _ _ _ _ _ ?_ e (by omega) (by rw [nc1, hl2]) p1 p2 p3 p5 (by omega) p8 hM2
        by_cases e31 : T (rd_order T i l).2.1 = 31
        · rw [if_pos e31, decide_eq_true e31]
        · rw [if_neg e31, if_neg e, decide_eq_false e31]
    · rw [if_neg z] at hB
      exact hB _ _ rfl _ _ _ _ _ _ _ _ _ _ _ _ _ _ _ p1
