/-! what the calls answer, and the state behind them, of w -/
def putR (w : Nat → Int) (a b d : Int) : Int := if (a < 0 ∨ 39 < a) ∨ ¬ ((b = 0 ∧ 0 ≤ d ∧ d ≤ 3) ∨ (b = 1 ∧ 1 ≤ d ∧ d ≤ 9) ∨ (b = 2 ∧ 0 ≤ d ∧ d ≤ 99)) then -1 else if b = 0 ∧ w (33 + a.toNat) = 1 then -3 else if b = 0 then w (113 + a.toNat) else if b = 1 then w (153 + a.toNat) else w (73 + a.toNat)
def putO (w : Nat → Int) (a b d : Int) : Nat → Int := if b = 0 then uI w (113 + a.toNat) d else if b = 1 then uI w (153 + a.toNat) d else uI w (73 + a.toNat) d
def putW (w : Nat → Int) (a b d : Int) : Nat → Int := if putR w a b d < 0 then w else putO w a b d
def sinkR (w : Nat → Int) (a : Int) : Int := if a < 0 ∨ 7 < a then -1 else if w (33 + a.toNat) = 1 ∨ w (113 + a.toNat) = 1 then -3 else if 6 ≤ w 0 then -5 else w 0
def sinkO (w : Nat → Int) (a : Int) : Nat → Int := uI (uI (uI (uI w (10 + (w 0).toNat) a) (16 + (w 0).toNat) 0) (33 + a.toNat) 1) 0 (w 0 + 1)
def sinkW (w : Nat → Int) (a : Int) : Nat → Int := if sinkR w a < 0 then w else sinkO w a
def listenerR (w : Nat → Int) (a b : Int) : Int := if (a < 0 ∨ 7 < a) ∨ (b < 0 ∨ 20 < b) then -1 else if 5 ≤ w 1 then -5 else w 1
def listenerO (w : Nat → Int) (a b : Int) : Nat → Int := uI (uI (uI w (28 + (w 1).toNat) a) (193 + (w 1).toNat) b) 1 (w 1 + 1)
def listenerW (w : Nat → Int) (a b : Int) : Nat → Int := if listenerR w a b < 0 then w else listenerO w a b
def noiseR (w : Nat → Int) (a b : Int) : Int := if (a < 0 ∨ 7 < a) ∨ (b < 0 ∨ 20 < b) then -1 else if 6 ≤ w 2 then -5 else w 2
def noiseO (w : Nat → Int) (a b : Int) : Nat → Int := uI (uI (uI (uI w (198 + (w 2).toNat) a) (204 + (w 2).toNat) b) (22 + (w 2).toNat) 0) 2 (w 2 + 1)
def noiseW (w : Nat → Int) (a b : Int) : Nat → Int := if noiseR w a b < 0 then w else noiseO w a b
def termsR (w : Nat → Int) (a b : Int) : Int := if ¬ ((a = 0 ∧ 0 ≤ b ∧ b ≤ 9999) ∨ (a = 1 ∧ 0 ≤ b ∧ b ≤ 10) ∨ (a = 2 ∧ 0 ≤ b ∧ b ≤ 9)) then -1 else w (7 + a.toNat)
def termsO (w : Nat → Int) (a b : Int) : Nat → Int := uI w (7 + a.toNat) b
def termsW (w : Nat → Int) (a b : Int) : Nat → Int := if termsR w a b < 0 then w else termsO w a b
def heardR (w : Nat → Int) (a b : Int) : Int := if (a < 0 ∨ 7 < a) ∨ (b < 0 ∨ 99 < b) then -1 else if 8 ≤ w 3 then -5 else w 3 + 1
def heardO (w : Nat → Int) (a b : Int) : Nat → Int := uI (uI (uI w (210 + 2 * (w 3).toNat) a) (211 + 2 * (w 3).toNat) b) 3 (w 3 + 1)
def heardW (w : Nat → Int) (a b : Int) : Nat → Int := if heardR w a b < 0 then w else heardO w a b
def wellR (w : Nat → Int) (a b : Int) : Int := if (a < 0 ∨ 63 < a) ∨ (b < 0 ∨ 1 < b) then -1 else if 10 ≤ w 4 then -5 else w 4 + 1
def wellO (w : Nat → Int) (a b : Int) : Nat → Int := uI (uI (uI w (226 + 2 * (w 4).toNat) a) (227 + 2 * (w 4).toNat) b) 4 (w 4 + 1)
def wellW (w : Nat → Int) (a b : Int) : Nat → Int := if wellR w a b < 0 then w else wellO w a b
def forgetR (w : Nat → Int) : Int := w 3 + w 4
def forgetW (w : Nat → Int) : Nat → Int := uI (uI w 3 0) 4 0
/-- refused (-2), or not (0) -/
def forceB (w : Nat → Int) (a : Int) : Int := if a < -1 ∨ w 5 ≤ a then -2 else 0
def forceR (w : Nat → Int) (a : Int) : Int := if a < -1 ∨ w 5 ≤ a then -2 else w 6
def forceW (w : Nat → Int) (a : Int) : Nat → Int := if forceB w a < 0 then w else uI w 6 a
theorem ifn {α : Type} {R : Int} {a b : α} (h : R < 0) : (if R < 0 then a else b) = a := if_pos h
theorem ifp {α : Type} {R : Int} {a b : α} (h : 0 ≤ R) : (if R < 0 then a else b) = b := if_neg (by omega)
theorem heardO.u {w : Nat → Int} {a b : Int} (j : Nat) (h7 : 7 ≤ j) (h1 : j < 113) : heardO w a b j = w j := by unfold heardO; rw [uI_n (by omega), uI_n (by omega), uI_n (by omega)]
theorem wellO.u {w : Nat → Int} {a b : Int} (j : Nat) (h7 : 7 ≤ j) (h1 : j < 113) : wellO w a b j = w j := by unfold wellO; rw [uI_n (by omega), uI_n (by omega), uI_n (by omega)]
theorem forgetW.u {w : Nat → Int} (j : Nat) (h7 : 7 ≤ j) (h1 : j < 113) : forgetW w j = w j := by unfold forgetW; rw [uI_n (by omega), uI_n (by omega)]
