/-- what a SUM, a TEST is worth: by what its words stand for; none: it is BROKEN -/
abbrev Sem : Type := (Nat → Nat → Int64) → Option Int64
/-- so it is, or where it can't go on; the next token; how many PARTS; what it is worth -/
abbrev PRs : Type := Bool × Nat × Nat × Sem
def noS : Sem := fun _ => none
def rd_no (i l : Nat) : PRs := (false, i, l, noS)
def rd_lit (v : Int64) : Sem := fun _ => some v
def rd_wrd (op ar : Nat) : Sem := fun e => some (e op ar)
def rd_chk (v : Int64) : Option Int64 := if v.toInt < -1000000000 ∨ 1000000000 < v.toInt then none else some v
def rd_ar (op : Nat) (a b : Int64) : Option Int64 :=
  if op = 20 then rd_chk (a + b) else if op = 21 then rd_chk (a - b) else if op = 22 then rd_chk (a * b)
  else if op = 23 then (if b = 0 then none else rd_chk (a / b)) else if op = 24 then (if b = 0 then none else rd_chk (a - a / b * b))
  else if op = 25 then (if a.toInt < b.toInt then some 1 else some 0) else if op = 26 then (if b.toInt < a.toInt then some 1 else some 0)
  else (if a = b then some 1 else some 0)
def rd_bin (op : Nat) (s t : Sem) : Sem := fun e => (s e).bind (fun a => (t e).bind (fun b => rd_ar op a b))
def rd_not (s : Sem) : Sem := fun e => (s e).map (fun a => 1 - a)
/-- "and" (29), "or" (30) -/
def rd_lg (op : Nat) (s t : Sem) : Sem := fun e => (s e).bind (fun a => if a = (if op = 29 then 0 else 1) then some a else t e)
theorem rd_not2 (s : Sem) : rd_not (rd_not s) = s := by
  funext e
  unfold rd_not
  cases h : s e with
  | none => simp only [Option.map_none]
  | some a =>
    simp only [Option.map_some]
    congr 1
    have : (1 : Int64) - (1 - a) = a := by
      rw [Int64.sub_eq_add_neg, Int64.sub_eq_add_neg, Int64.neg_add, Int64.sub_eq_add_neg, Int64.neg_neg, ← Int64.add_assoc, Int64.add_right_neg, Int64.zero_add]
    exact this
/-- which word of the language (as the reference counts them; 0: none), and how many may stand behind it -/
def rd_op (ord : Bool) (t : Int) : Nat :=
  if ord then (if t = 16 then 1 else if t = 25 then 2 else if t = 26 then 3 else if t = 27 then 4 else if t = 28 then 5 else if t = 10 then 6 else 0)
  else (if 9 ≤ t ∧ t ≤ 17 then (t - 8).toNat else 0)
def rd_ch (ord : Bool) (t : Int) : Int := if ord then (if t = 10 then 5 else if t = 27 ∨ t = 28 then 6 else 0) else 0
def rd_tm (t : Int) : Nat := if t = 142 then 22 else if t = 147 then 23 else if t = 137 then 24 else 0
def rd_ad (t : Int) : Nat := if t = 143 then 20 else if t = 145 then 21 else 0
def rd_cp (t : Int) : Nat := if t = 160 then 25 else if t = 162 then 26 else if t = 161 then 27 else 0
/-- a PART -/
def rd_part (T : Nat → Int) (ord : Bool) (sub : Option (Nat → Nat → PRs)) (i l : Nat) : PRs :=
  if T i = 191 then
    match sub with
    | none => rd_no i l
    | some f => if (f (i + 1) l).1 = true then (if T (f (i + 1) l).2.1 = 193 then (true, (f (i + 1) l).2.1 + 1, (f (i + 1) l).2.2.1, (f (i + 1) l).2.2.2) else rd_no (f (i + 1) l).2.1 (f (i + 1) l).2.2.1) else f (i + 1) l
  else if 50 ≤ l then rd_no i l
  else if 1000 ≤ T i ∧ T i ≤ 2000 then (true, i + 1, l + 1, rd_lit (Int64.ofInt (T i - 1000)))
  else if rd_op ord (T i) = 0 then rd_no i l
  else if rd_ch ord (T i) = 0 then (true, i + 1, l + 1, rd_wrd (rd_op ord (T i)) 0)
  else if 0 ≤ T (i + 1) - 1000 ∧ T (i + 1) - 1000 < rd_ch ord (T i) then (true, i + 2, l + 1, rd_wrd (rd_op ord (T i)) (T (i + 1) - 1000).toNat)
  else rd_no (i + 1) (l + 1)
/-- PARTS with signs between them: what came ahead goes along as c -/
def rd_lp (part : Nat → Nat → PRs) (sg : Nat → Nat) (j2 : Nat → Sem → Sem → Sem) : Nat → (Sem → Sem) → Nat → Nat → PRs
  | 0, _, i, l => rd_no i l
  | n + 1, c, i, l =>
    if (part i l).1 = true then
      (if sg (part i l).2.1 = 0 then (true, (part i l).2.1, (part i l).2.2.1, c (part i l).2.2.2)
       else rd_lp part sg j2 n (j2 (sg (part i l).2.1) (c (part i l).2.2.2)) ((part i l).2.1 + 1) (part i l).2.2.1)
    else part i l
def rd_sum (T : Nat → Int) (part : Nat → Nat → PRs) : Nat → Nat → PRs :=
  rd_lp (rd_lp part (fun j => rd_tm (T j)) rd_bin 400 id) (fun j => rd_ad (T j)) rd_bin 400 id
def rd_nots (T : Nat → Int) : Nat → Nat → Nat
  | 0, i => i
  | n + 1, i => if T i = 8 then rd_nots T n (i + 1) else i
def rd_par (k : Nat) (s : Sem) : Sem := if k % 2 = 1 then rd_not s else s
/-- a PLAIN without its "not"s -/
def rd_plain0 (T : Nat → Int) (sum : Nat → Nat → PRs) (sub : Option (Nat → Nat → PRs)) (i l : Nat) : PRs :=
  if T i = 140 then
    match sub with
    | none => rd_no i l
    | some f => if (f (i + 1) l).1 = true then (if T (f (i + 1) l).2.1 = 141 then (true, (f (i + 1) l).2.1 + 1, (f (i + 1) l).2.2.1, (f (i + 1) l).2.2.2) else rd_no (f (i + 1) l).2.1 (f (i + 1) l).2.2.1) else f (i + 1) l
  else if (sum i l).1 = true then
    (if rd_cp (T (sum i l).2.1) = 0 then rd_no (sum i l).2.1 (sum i l).2.2.1
     else if (sum ((sum i l).2.1 + 1) (sum i l).2.2.1).1 = true then
       (true, (sum ((sum i l).2.1 + 1) (sum i l).2.2.1).2.1, (sum ((sum i l).2.1 + 1) (sum i l).2.2.1).2.2.1, rd_bin (rd_cp (T (sum i l).2.1)) (sum i l).2.2.2 (sum ((sum i l).2.1 + 1) (sum i l).2.2.1).2.2.2)
     else sum ((sum i l).2.1 + 1) (sum i l).2.2.1)
  else sum i l
def rd_plain (T : Nat → Int) (sum : Nat → Nat → PRs) (sub : Option (Nat → Nat → PRs)) (i l : Nat) : PRs :=
  (fun r : PRs => (r.1, r.2.1, r.2.2.1, rd_par (rd_nots T 400 i - i) r.2.2.2)) (rd_plain0 T sum sub (rd_nots T 400 i) l)
def rd_test (T : Nat → Int) (plain : Nat → Nat → PRs) : Nat → Nat → PRs :=
  rd_lp (rd_lp plain (fun j => if T j = 7 then 29 else 0) rd_lg 400 id) (fun j => if T j = 6 then 30 else 0) rd_lg 400 id
/-- with so many brackets still to come -/
def rd_sumL (T : Nat → Int) (ord : Bool) : Nat → Nat → Nat → PRs
  | 0 => rd_sum T (rd_part T ord none)
  | d + 1 => rd_sum T (rd_part T ord (some (rd_sumL T ord d)))
def rd_testL (T : Nat → Int) (ord : Bool) : Nat → Nat → Nat → PRs
  | 0 => rd_test T (rd_plain T (rd_sumL T ord 0) none)
  | d + 1 => rd_test T (rd_plain T (rd_sumL T ord (d + 1)) (some (rd_testL T ord d)))
/-- a CLAUSE that was read: what it begins with, its SUMS, how many TIMES, its TEST -/
abbrev Cls : Type := Nat × Option Sem × Option Sem × Nat × Option Sem
abbrev PRc : Type := Bool × Nat × Nat × Cls
def rd_noc (i l : Nat) : PRc := (false, i, l, (0, none, none, 0, none))
def rd_if (T : Nat → Int) (ord : Bool) (h : Nat) (s t : Option Sem) (m : Nat) (i l : Nat) : PRc :=
  if T i = 5 then
    (if (rd_testL T ord 8 (i + 1) l).1 = true then (true, (rd_testL T ord 8 (i + 1) l).2.1, (rd_testL T ord 8 (i + 1) l).2.2.1, (h, s, t, m, some (rd_testL T ord 8 (i + 1) l).2.2.2))
     else rd_noc (rd_testL T ord 8 (i + 1) l).2.1 (rd_testL T ord 8 (i + 1) l).2.2.1)
  else (true, i, l, (h, s, t, m, none))
def rd_rule (T : Nat → Int) (i l : Nat) : PRc :=
  if 0 ≤ T i ∧ T i ≤ 4 then
    (if T i = 4 then rd_if T false 4 none none 1 (i + 1) l
     else if (rd_sumL T false 8 (i + 1) l).1 = true then
       rd_if T false (T i).toNat (some (rd_sumL T false 8 (i + 1) l).2.2.2) none 1 (rd_sumL T false 8 (i + 1) l).2.1 (rd_sumL T false 8 (i + 1) l).2.2.1
     else rd_noc (rd_sumL T false 8 (i + 1) l).2.1 (rd_sumL T false 8 (i + 1) l).2.2.1)
  else rd_noc i l
def rd_tms (T : Nat → Int) (h : Nat) (s t : Option Sem) (i l : Nat) : PRc :=
  if T i = 24 then
    (if 1 ≤ T (i + 1) - 1000 ∧ T (i + 1) - 1000 ≤ 20 then rd_if T true h s t (T (i + 1) - 1000).toNat (i + 2) l else rd_noc (i + 1) l)
  else rd_if T true h s t 1 i l
def rd_act (t : Int) : Nat := if t = 18 then 1 else if t = 20 then 2 else if t = 21 then 3 else if t = 22 then 4 else 0
def rd_order (T : Nat → Int) (i l : Nat) : PRc :=
  if rd_act (T i) = 0 then rd_noc i l
  else if (rd_sumL T true 8 (i + 1) l).1 = true then
    (if rd_act (T i) = 1 ∨ rd_act (T i) = 4 then
      (if T (rd_sumL T true 8 (i + 1) l).2.1 = (if rd_act (T i) = 1 then 19 else 23) then
        (if (rd_sumL T true 8 ((rd_sumL T true 8 (i + 1) l).2.1 + 1) (rd_sumL T true 8 (i + 1) l).2.2.1).1 = true then
          rd_tms T (rd_act (T i) - 1) (some (rd_sumL T true 8 (i + 1) l).2.2.2) (some (rd_sumL T true 8 ((rd_sumL T true 8 (i + 1) l).2.1 + 1) (rd_sumL T true 8 (i + 1) l).2.2.1).2.2.2)
            (rd_sumL T true 8 ((rd_sumL T true 8 (i + 1) l).2.1 + 1) (rd_sumL T true 8 (i + 1) l).2.2.1).2.1 (rd_sumL T true 8 ((rd_sumL T true 8 (i + 1) l).2.1 + 1) (rd_sumL T true 8 (i + 1) l).2.2.1).2.2.1
         else rd_noc (rd_sumL T true 8 ((rd_sumL T true 8 (i + 1) l).2.1 + 1) (rd_sumL T true 8 (i + 1) l).2.2.1).2.1 (rd_sumL T true 8 ((rd_sumL T true 8 (i + 1) l).2.1 + 1) (rd_sumL T true 8 (i + 1) l).2.2.1).2.2.1)
       else rd_noc (rd_sumL T true 8 (i + 1) l).2.1 (rd_sumL T true 8 (i + 1) l).2.2.1)
     else rd_tms T (rd_act (T i) - 1) (some (rd_sumL T true 8 (i + 1) l).2.2.2) none (rd_sumL T true 8 (i + 1) l).2.1 (rd_sumL T true 8 (i + 1) l).2.2.1)
  else rd_noc (rd_sumL T true 8 (i + 1) l).2.1 (rd_sumL T true 8 (i + 1) l).2.2.1
/-- CLAUSES, so many at most -/
def rd_txt (T : Nat → Int) (cl : Nat → Nat → PRc) : Nat → Nat → Nat → List Cls → Bool × Nat × List Cls
  | 0, i, _, a => (false, i, a)
  | n + 1, i, l, a =>
    if (cl i l).1 = true then
      (if T (cl i l).2.1 = 31 then (true, (cl i l).2.1, a ++ [(cl i l).2.2.2])
       else if T (cl i l).2.1 = 159 then rd_txt T cl n ((cl i l).2.1 + 1) (cl i l).2.2.1 (a ++ [(cl i l).2.2.2])
       else (false, (cl i l).2.1, a ++ [(cl i l).2.2.2]))
    else (false, (cl i l).2.1, a)
def rd_law (T : Nat → Int) : Bool × Nat × List Cls := rd_txt T (rd_rule T) 12 0 0 []
def rd_ord (T : Nat → Int) : Bool × Nat × List Cls := rd_txt T (rd_order T) 12 0 0 []
