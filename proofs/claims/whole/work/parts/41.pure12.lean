/-! a statement, and all statements, pure -/
def zwk (T : Nat → Int32) (m e k : Nat) : Bool := zwd T (zst3 T m e).1 (zss T m e) (znx T m e) k
def zset (c : CT) (w : Nat) (v : Int32) : CT := if w = 0 then sAir c v else if w = 1 then sFall c v else if w = 2 then sDay c v else sCoal c v
def zmt (w : Nat) : Int32 := if w = 0 then 40 else if w = 1 then 5 else if w = 2 then 999 else 9
def zchg (T : Nat → Int32) (m e : Nat) (c : CT) (w : Nat) : Bool × Nat × CT := if znum T m (znx T m e) (zmt w) = -1 then (false, znx T m e, c) else (true, znx T m e, zset c w (znum T m (znx T m e) (zmt w)))
def zstm (T : Nat → Int32) (m e : Nat) (c : CT) : Bool × Nat × CT :=
  if zwk T m e 0 = true then (if cN c < 8 then zper T m (znx T m e) c else (false, e, c))
  else if zwk T m e 1 = true then ((zpor T m (znx T m e) (cFe c) (cN c) 40).1, (zpor T m (znx T m e) (cFe c) (cN c) 40).2.1, sFe c (zpor T m (znx T m e) (cFe c) (cN c) 40).2.2)
  else if zwk T m e 2 = true then ((zpor T m (znx T m e) (cBr c) (cN c) 9).1, (zpor T m (znx T m e) (cBr c) (cN c) 9).2.1, sBr c (zpor T m (znx T m e) (cBr c) (cN c) 9).2.2)
  else if zwk T m e 3 = true then zchg T m e c 0
  else if zwk T m e 4 = true then zchg T m e c 1
  else if zwk T m e 5 = true then zchg T m e c 2
  else if zwk T m e 6 = true then zchg T m e c 3
  else (false, e, c)
