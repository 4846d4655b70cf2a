/-! what every call answers, and the state behind it -/
def xat (f : SHF) (i : Int32) : Int64 := if 0 ≤ i ∧ i < nI (fSz f) then fEl f i.toNatClampNeg else 0
def xf (σ : SGM) (s : Int32) : SHF := xS σ s.toNatClampNeg
def isS (s : Int32) : Prop := 0 ≤ s ∧ s ≤ 7
def q_rf (σ : SGM) (s n : Int32) : Int32 := if 0 ≤ s ∧ s ≤ 7 then (if ¬ fSh (xf σ s) = -1 then -3 else if fSo (xf σ s) = -1 ∧ fSh (xf σ s) = -1 then -4 else if n ≤ nI (fSz (xf σ s)) then 0 else -2) else -2
def q_tf (σ : SGM) (s n : Int32) : Int32 := if 0 ≤ n ∧ n ≤ 20 then q_rf σ s (2 * n) else -2
def q_r1 (σ : SGM) (s : Int32) (k : Nat) : Int64 := xat (xf σ s) (2 * nI k)
def q_r2 (σ : SGM) (s : Int32) (k : Nat) : Int64 := xat (xf σ s) (2 * nI k + 1)
def q_cl (σ : SGM) (s n : Int32) : Option Nat := zclash (cN (xN σ)) (q_r1 σ s) (q_r2 σ s) n.toNatClampNeg
def q_B (σ : SGM) (s n : Int32) : Nat → Int32 := zcl (cN (xN σ)) (q_r1 σ s) (q_r2 σ s) n.toNatClampNeg
def q_bf (σ : SGM) (s n : Int32) : Int32 := if q_tf σ s n = 0 then (if q_cl σ s n = none then 0 else -5) else q_tf σ s n
def q_row (σ : SGM) (s t n : Int32) : Int32 × SGM := if (0 ≤ s ∧ s ≤ 7) ∧ (0 ≤ t ∧ t ≤ 4) ∧ (0 ≤ n ∧ n ≤ 40) then (1, yS σ (va_up (xS σ) s.toNatClampNeg (t, n.toNatClampNeg, -1, zfill (fEl (xf σ s)) 40 0))) else qr σ (-2)
def q_set (σ : SGM) (s i : Int32) (v : Int64) : Int32 × SGM := if q_rf σ s 0 = 0 then (if 0 ≤ i ∧ i < nI (fSz (xf σ s)) then (1, yS σ (va_up (xS σ) s.toNatClampNeg (fSo (xf σ s), fSz (xf σ s), fSh (xf σ s), va_up (fEl (xf σ s)) i.toNatClampNeg (zfit (fSo (xf σ s)) v)))) else qr σ (-2)) else qr σ (q_rf σ s 0)
def zstr (f : SHF) (i n : Int32) : Prop := 0 ≤ n ∧ n ≤ nI (fSz f) ∧ 0 ≤ i ∧ i ≤ nI (fSz f) - n
def q_copy (σ : SGM) (p q i j n : Int32) : Int32 × SGM :=
  if (0 ≤ p ∧ p ≤ 7) ∧ (0 ≤ q ∧ q ≤ 7) then
    (if fSh (xf σ p) = -1 ∧ fSh (xf σ q) = -1 then
      (if fSo (xf σ p) = -1 ∨ fSo (xf σ q) = -1 then qr σ (-4)
       else if fSo (xf σ p) = fSo (xf σ q) then
        (if (0 ≤ n ∧ n ≤ nI (fSz (xf σ p)) ∧ 0 ≤ i ∧ i ≤ nI (fSz (xf σ p)) - n) ∧ (0 ≤ n ∧ n ≤ nI (fSz (xf σ q)) ∧ 0 ≤ j ∧ j ≤ nI (fSz (xf σ q)) - n) then
          (n, yS σ (va_up (xS σ) q.toNatClampNeg (fSo (xf σ q), fSz (xf σ q), fSh (xf σ q), va_cpy (fEl (xf σ p)) (fEl (xf σ q)) i.toNatClampNeg j.toNatClampNeg n.toNatClampNeg)))
         else qr σ (-2))
       else qr σ (-3))
     else qr σ (-3))
  else qr σ (-2)
def q_element (σ : SGM) (s i : Int32) : Int64 := if 0 ≤ s ∧ s ≤ 7 then xat (xf σ s) i else 0
def q_holds (σ : SGM) (s : Int32) : Int32 := if 0 ≤ s ∧ s ≤ 7 then (if fSh (xf σ s) = -1 then fSo (xf σ s) else 10 + fSh (xf σ s)) else -1
def q_show (σ : SGM) (s p : Int32) : Int32 × SGM := if (0 ≤ s ∧ s ≤ 7) ∧ (p = -1 ∨ (0 ≤ p ∧ p < cPp (xN σ))) then (1, yS σ (va_up (xS σ) s.toNatClampNeg (-1, 0, p, fEl (xf σ s)))) else qr σ (-2)
def q_says (σ : SGM) (s k : Int32) : Int32 × SGM := if (0 ≤ s ∧ s ≤ 7) ∧ (0 ≤ k ∧ k ≤ 5) then
    (if fSo (xf σ s) = -1 then
      (if fSh (xf σ s) = -1 then qr σ (-4)
       else if zou (cKd (xN σ) (fSh (xf σ s)).toNatClampNeg).toNatClampNeg k = true then ((if k = 0 then cPr (xN σ) (fSh (xf σ s)).toNatClampNeg else zc (xN σ) (fSh (xf σ s)).toNatClampNeg), σ)
       else qr σ (-3))
     else qr σ (-3))
  else qr σ (-2)
def q_person (σ : SGM) (k a p : Int32) : Int32 × SGM := if (0 ≤ k ∧ k ≤ 5) ∧ (0 ≤ a ∧ a ≤ 9) ∧ (0 ≤ p ∧ p ≤ 20) then (if 8 ≤ cPp (xN σ) then qr σ (-6) else (nI (cN (xN σ)), yN σ (zsettle (xN σ) k a p))) else qr σ (-2)
def zmg (w : Int32) : Int32 := if w = 0 then 20 else if w = 1 then 9 else 40
def q_give (σ : SGM) (p w v : Int32) : Int32 × SGM := if (0 ≤ p ∧ p < cPp (xN σ)) ∧ (0 ≤ w ∧ w ≤ 2) ∧ (0 ≤ v ∧ v ≤ zmg w) then
    (if w = 0 then (cPr (xN σ) p.toNatClampNeg, yN σ (sPr (xN σ) (va_up (cPr (xN σ)) p.toNatClampNeg v)))
     else if w = 1 then (cBr (xN σ) p.toNatClampNeg, yN σ (sBr (xN σ) (va_up (cBr (xN σ)) p.toNatClampNeg v)))
     else (cFe (xN σ) p.toNatClampNeg, yN σ (sFe (xN σ) (va_up (cFe (xN σ)) p.toNatClampNeg v))))
  else qr σ (-2)
def zget (c : CT) (w : Int32) : Int32 := if w = 0 then cAir c else if w = 1 then cFall c else if w = 2 then cDay c else cCoal c
def q_tell (σ : SGM) (w v : Int32) : Int32 × SGM := if (0 ≤ w ∧ w ≤ 3) ∧ (0 ≤ v ∧ v ≤ zmt w.toNatClampNeg) then (zget (xN σ) w, yN σ (zset (xN σ) w.toNatClampNeg v)) else qr σ (-2)
def q_thaw (σ : SGM) : Int32 × SGM := (b2i (¬ cWin (xN σ) = -1), yN σ (sWin (xN σ) (-1)))
def q_feed (σ : SGM) (x : Int32) : Int32 × SGM := if 0 ≤ x ∧ x ≤ 255 then (if 250 ≤ xTn σ then qr σ (-6) else (nI (xTn σ + 1), yT σ (xTn σ + 1) (va_up (xTb σ) (xTn σ) x))) else qr σ (-2)
def q_wipe (σ : SGM) : Int32 × SGM := (nI (xTn σ), yT σ 0 (xTb σ))
def q_rd (σ : SGM) : Int32 × CT := zrd (xTb σ) (xTn σ) 250 1 0 (xN σ)
def q_country (σ : SGM) : Int32 × SGM := if 0 ≤ (q_rd σ).1 then ((q_rd σ).1, yN (yT σ 0 (xTb σ)) (q_rd σ).2) else ((q_rd σ).1, rfs (yT σ 0 (xTb σ)) 0)
def q_personOf (σ : SGM) (p w : Int32) : Int32 × SGM := if 0 ≤ p ∧ p < cPp (xN σ) then
    (if w = 0 then (cKd (xN σ) p.toNatClampNeg, σ) else if w = 1 then (cAa (xN σ) p.toNatClampNeg, σ) else if w = 2 then (cPr (xN σ) p.toNatClampNeg, σ) else if w = 3 then (cBr (xN σ) p.toNatClampNeg, σ) else if w = 4 then (cFe (xN σ) p.toNatClampNeg, σ) else if w = 5 then (zc (xN σ) p.toNatClampNeg, σ) else if w = 6 then (zl (xN σ) (cPr (xN σ) p.toNatClampNeg) p.toNatClampNeg, σ) else qr σ (-2))
  else qr σ (-2)
def q_speaks (σ : SGM) (p : Int32) : Int32 × SGM := if 0 ≤ p ∧ p < cPp (xN σ) then (b2i (zsp (xN σ) p.toNatClampNeg = true), σ) else qr σ (-2)
def q_coldest (σ : SGM) : Int32 := oI (zbest (xN σ))
def q_speaking (σ : SGM) : Int32 := zbits (zsp (xN σ)) (cN (xN σ))
def q_isSo (σ : SGM) : Int32 := b2i (zso (xN σ) = true)
def q_rank (σ : SGM) (i : Int32) : Int32 × SGM := if 0 ≤ i ∧ i ≤ cPp (xN σ) - 1 then (oI (zrank (xN σ) i), σ) else qr σ (-2)
def q_when (σ : SGM) (w : Int32) : Int32 × SGM := if 0 ≤ w ∧ w ≤ 1 then ((if w = 0 ∨ zwhenI (xN σ) 60 = -1 then zwhenI (xN σ) 60 else oI (zbest (zdays (zwhen (xN σ) 60) (xN σ)))), σ) else qr σ (-2)
def zahd (c : CT) (w : Int32) : Int32 := if w = 0 then cAir c else if w = 1 then oI (zbest c) else match zbest c with
  | none => 0
  | some p => zc c p
def q_ahead (σ : SGM) (n w : Int32) : Int32 × SGM := if (0 ≤ n ∧ n ≤ 200) ∧ (0 ≤ w ∧ w ≤ 2) then (zahd (zdays n.toNatClampNeg (xN σ)) w, σ) else qr σ (-2)
def q_later (σ : SGM) (p n : Int32) : Int32 × SGM := if (0 ≤ p ∧ p < cPp (xN σ)) ∧ (0 ≤ n ∧ n ≤ 200) then (zc (zdays n.toNatClampNeg (xN σ)) p.toNatClampNeg, σ) else qr σ (-2)
def q_feeds (σ : SGM) (t w : Int32) : Int32 × SGM := if (0 ≤ t ∧ t ≤ 60) ∧ (0 ≤ w ∧ w ≤ 2) then
    (if cPp (xN σ) = 0 then qr σ (-5) else
      ((if w = 1 then (zleast (xN σ) t.toNatClampNeg).2 else if w = 0 ∨ (zleast (xN σ) t.toNatClampNeg).1 = -1 then (zleast (xN σ) t.toNatClampNeg).1 else (zleast (xN σ) t.toNatClampNeg).1 * cCoal (xN σ)), σ))
  else qr σ (-2)
def q_warm (σ : SGM) (t : Int32) : Int32 × SGM := if 0 ≤ t ∧ t ≤ 60 then (oI (zfw (xN σ) t.toNatClampNeg (2 ^ cN (xN σ))).1, σ) else qr σ (-2)
def q_out (σ : SGM) (w : Int32) : Int32 × SGM := if 0 ≤ w ∧ w ≤ 1 then (if cPp (xN σ) = 0 then qr σ (-5) else (oI (zbst (zfW (xN σ)) (decide (w = 0)) (cN (xN σ))), σ)) else qr σ (-2)
def q_airsB (σ : SGM) (s : Int32) (k : Nat) : Bool := decide (0 ≤ q_r1 σ s k) && decide (q_r1 σ s k ≤ 40)
def q_wheB (σ : SGM) (s : Int32) (k : Nat) : Bool := decide (q_r2 σ s k = 0) || decide (q_r2 σ s k = 1)
def q_aP (σ : SGM) (s : Int32) (m p v : Nat) : Bool := zallb (fun k => decide ((b2i (zsp (cPA (xN σ) p (nI v) (q_r1 σ s k).toInt32) p = true)).toInt64 = q_r2 σ s k)) m
def q_aK (σ : SGM) (s : Int32) (m p v : Nat) : Bool := zallb (fun k => decide ((zcT (nI v) (sAir (xN σ) (q_r1 σ s k).toInt32) p).toInt64 = q_r2 σ s k)) m
def q_prides (σ : SGM) (s n p : Int32) : Int32 × SGM := if 0 ≤ p ∧ p < cPp (xN σ) then
    (if q_tf σ s n = 0 then
      (if zallb (q_airsB σ s) n.toNatClampNeg = true ∧ zallb (q_wheB σ s) n.toNatClampNeg = true then (zbits (q_aP σ s n.toNatClampNeg p.toNatClampNeg) 21, σ) else qr σ (-5))
     else qr σ (q_tf σ s n))
  else qr σ (-2)
def q_kinds (σ : SGM) (s n p : Int32) : Int32 × SGM := if 0 ≤ p ∧ p < cPp (xN σ) then
    (if q_tf σ s n = 0 then
      (if zallb (q_airsB σ s) n.toNatClampNeg = true then (zbits (q_aK σ s n.toNatClampNeg p.toNatClampNeg) 6, σ) else qr σ (-5))
     else qr σ (q_tf σ s n))
  else qr σ (-2)
/-- the last of so many -/
def zlast (f : Nat → Bool) : Nat → Option Nat
  | 0 => none
  | i + 1 => if f i = true then some i else zlast f i
def q_airP (σ : SGM) (p a : Nat) : Bool := decide (zbest (sAir (xN σ) (nI a)) = some p)
def q_airs (σ : SGM) (p w : Int32) : Int32 × SGM := if (0 ≤ p ∧ p < cPp (xN σ)) ∧ (0 ≤ w ∧ w ≤ 1) then ((if w = 0 then nI (fa_cnt (q_airP σ p.toNatClampNeg) 41) else oI (zlast (q_airP σ p.toNatClampNeg) 41)), σ) else qr σ (-2)
def q_clash (σ : SGM) (s n : Int32) : Int32 × SGM := if q_tf σ s n = 0 then (oI (q_cl σ s n), σ) else qr σ (q_tf σ s n)
def q_orders (σ : SGM) (s n : Int32) : Int32 × SGM := if q_bf σ s n = 0 then (zco (q_B σ s n) (-1) (-1) (cN (xN σ)), σ) else qr σ (q_bf σ s n)
def q_next (σ : SGM) (s n : Int32) : Int32 × SGM := if q_bf σ s n = 0 then ((zbo (q_B σ s n) (cN (xN σ)) (cN (xN σ))).1, σ) else qr σ (q_bf σ s n)
def q_mayBe (σ : SGM) (s n : Int32) : Int32 × SGM := if q_bf σ s n = 0 then (zunb (q_B σ s n) (cN (xN σ)), σ) else qr σ (q_bf σ s n)
def q_wb (σ : SGM) (s : Int32) (k : Nat) : Bool := decide (zc (xN σ) (zpx (q_r2 σ s k)) < zc (xN σ) (zpx (q_r1 σ s k)))
def q_wrongBowls (σ : SGM) (s n : Int32) : Int32 × SGM := if q_bf σ s n = 0 then (nI (fa_cnt (fun k => !(q_wb σ s k)) n.toNatClampNeg), σ) else qr σ (q_bf σ s n)
def q_byTurns (σ : SGM) (n : Int32) : Int32 × SGM := if 0 ≤ n ∧ n ≤ 4 then (b2i (zmk n.toNatClampNeg (xN σ) true = true), σ) else qr σ (-2)
def q_na (σ : SGM) : Nat := (cAir (xN σ)).toNatClampNeg
def q_odds (σ : SGM) (t w : Int32) : Int32 × SGM := if (0 ≤ t ∧ t ≤ 5) ∧ (0 ≤ w ∧ w ≤ 1) then ((if w = 0 then zlik (nI (4 ^ t.toNatClampNeg)) (nI (zsm (zQ (sFall (xN σ) 0) (q_na σ) t.toNatClampNeg) 41)) else zmean (nI (4 ^ t.toNatClampNeg)) (zsmL (zW (q_na σ) t.toNatClampNeg) 41)), σ) else qr σ (-2)
def q_soA (σ : SGM) (a : Nat) : Bool := zso (sAir (xN σ) (nI a))
def q_warmest (σ : SGM) : Int32 := oI (zlast (q_soA σ) 41)
def q_brP (σ : SGM) (p v : Nat) : Bool := !(zso (sBr (xN σ) (va_up (cBr (xN σ)) p (nI v))))
def q_brandyFor (σ : SGM) (p : Int32) : Int32 × SGM := if 0 ≤ p ∧ p < cPp (xN σ) then (oI (zfind (q_brP σ p.toNatClampNeg) 10), σ) else qr σ (-2)
def q_faP (σ : SGM) (t v : Nat) : Bool := !(zno (sFall (xN σ) (nI v)) t)
def q_fallFor (σ : SGM) (t : Int32) : Int32 × SGM := if 0 ≤ t ∧ t ≤ 60 then (oI (zfind (q_faP σ t.toNatClampNeg) 6), σ) else qr σ (-2)
def q_holdsOut (σ : SGM) (p : Int32) : Int32 × SGM := if 0 ≤ p ∧ p < cPp (xN σ) then (zhearI (xN σ) p.toNatClampNeg, σ) else qr σ (-2)
def q_toughest (σ : SGM) (w : Int32) : Int32 × SGM := if 0 ≤ w ∧ w ≤ 1 then (if cPp (xN σ) = 0 then qr σ (-5) else (oI (zbst (zfH (xN σ)) (decide (w = 0)) (cN (xN σ))), σ)) else qr σ (-2)
def q_shivering (σ : SGM) : Int32 := l_sum (zc (xN σ)) (cN (xN σ))
def zlead (c : CT) (a b : Option Nat) : Int32 := match a with
  | none => 0
  | some p => match b with
    | none => 0
    | some q => zc c p - zc c q
def q_lead (σ : SGM) : Int32 := zlead (xN σ) (zrank (xN σ) 0) (zrank (xN σ) 1)
def q_quiet (σ : SGM) : Int32 := zquiet (xN σ)
def q_second (σ : SGM) (p : Int32) : Int32 × SGM := if 0 ≤ p ∧ p < cPp (xN σ) then (oI (zbest (zleave (xN σ) p.toNatClampNeg)), σ) else qr σ (-2)
def q_gaP (σ : SGM) (p k : Nat) : Bool := !(decide (zbest (zfe (xN σ) p (cFe (xN σ) p + nI k)) = some p))
def q_gap (σ : SGM) (p : Int32) : Int32 × SGM := if 0 ≤ p ∧ p < cPp (xN σ) then (oI (zfind (q_gaP σ p.toNatClampNeg) (41 - (cFe (xN σ) p.toNatClampNeg).toNatClampNeg)), σ) else qr σ (-2)
def q_biP (σ : SGM) (p a : Nat) : Bool := zsp (sAir (xN σ) (nI a)) p
def q_bites (σ : SGM) (p : Int32) : Int32 × SGM := if 0 ≤ p ∧ p < cPp (xN σ) then (oI (zlast (q_biP σ p.toNatClampNeg) 41), σ) else qr σ (-2)
def q_all (σ : SGM) (t : Int32) : Int32 × SGM := if 0 ≤ t ∧ t ≤ 60 then (oI (zeach (xN σ) t.toNatClampNeg), σ) else qr σ (-2)
def q_ofKind (σ : SGM) (k : Int32) : Int32 × SGM := if 0 ≤ k ∧ k ≤ 5 then (l_sum (fun p => b2i (cKd (xN σ) p = k)) (cN (xN σ)), σ) else qr σ (-2)
def q_juP (σ : SGM) (s : Int32) (d : Nat) : Bool := decide (¬ xat (xf σ s) (nI d) = (oI (zbest (zdays d (xN σ)))).toInt64)
def q_judge (σ : SGM) (s n : Int32) : Int32 × SGM := if 0 ≤ n ∧ n ≤ 40 then (if q_rf σ s n = 0 then (oI (zfind (q_juP σ s) n.toNatClampNeg), σ) else qr σ (q_rf σ s n)) else qr σ (-2)
def zpn2 : Nat → CT → CT
  | 0, c => c
  | k + 1, c => zpass (zpn2 k c)
def q_days (σ : SGM) (n : Int32) : Int32 × SGM := if 1 ≤ n ∧ n ≤ 60 then (cWin (zpn2 n.toNatClampNeg (xN σ)), yN σ (zpn2 n.toNatClampNeg (xN σ))) else qr σ (-2)
/-- a day by draws, ahead of its end -/
def zdw1 (c : CT) : CT := sFall (zseed c) (zdraw c 4)
def zdw (c : CT) : CT := if (zdraw (zdw1 c) (cPp c + 1)).toNatClampNeg < cN c then zmore (zseed (zdw1 c)) (zdraw (zdw1 c) (cPp c + 1)).toNatClampNeg 1 else zseed (zdw1 c)
def zdwn : Nat → CT → CT
  | 0, c => c
  | k + 1, c => zpass (zdw (zdwn k c))
def q_drawn (σ : SGM) (n : Int32) : Int32 × SGM := if 1 ≤ n ∧ n ≤ 60 then (nI (fa_cnt (fun k => zso (zdw (zdwn k (xN σ)))) n.toNatClampNeg), yN σ (zdwn n.toNatClampNeg (xN σ))) else qr σ (-2)
def q_seed (σ : SGM) (v : Int32) : Int32 × SGM := (cSeed (xN σ), yN σ (sSeed (xN σ) v))
def q_image (σ : SGM) : Int32 × SGM := (1, yK σ (xN σ))
def zbk (c : CT) (i : Nat) (f : Nat → SHF) : Nat → SHF := fun s => if s < i ∧ ¬ fSh (f s) = -1 ∧ ¬ (0 ≤ fSh (f s) ∧ fSh (f s) < cPp c) then (-1, 0, -1, fEl (f s)) else f s
def q_back (σ : SGM) : Int32 × SGM := match xK σ with
  | none => qr σ (-5)
  | some c => (1, yS (yN σ c) (zbk c 8 (xS σ)))
def q_use (σ : SGM) (s : Nat) : Bool := !(decide (fSo (xS σ s) = -1 ∧ fSh (xS σ s) = -1))
def q_status (σ : SGM) (w : Int32) : Int32 := if w = 0 then cPp (xN σ) else if w = 1 then cAir (xN σ) else if w = 2 then cFall (xN σ) else if w = 3 then cDay (xN σ) else if w = 4 then cCoal (xN σ) else if w = 5 then cWin (xN σ) else if w = 6 then l_sum (cFe (xN σ)) (cN (xN σ)) else if w = 7 then nI (xTn σ) else if w = 8 then cSeed (xN σ) else if w = 9 then nI (fa_cnt (q_use σ) 8) else if 0 ≤ w - 12 ∧ w - 12 ≤ 4 then xR σ (w - 12).toNatClampNeg else -1
