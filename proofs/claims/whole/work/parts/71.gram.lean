/-- a parser's state: the token, the error and its place, the draft, the score's items -/
abbrev yPs := Nat × Int32 × Int32 × (Nat → Int32) × List Int32
section Gram
variable (k v s : Nat → Int32)
def gErr (c : Int32) (P : yPs) : yPs := if P.2.1 = 0 then (P.1, c, s P.1, P.2.2.2) else P
def gStp (P : yPs) : yPs := (P.1 + 1, P.2)
def gPut (j : Nat) (x : Int32) (P : yPs) : yPs := (P.1, P.2.1, P.2.2.1, upd P.2.2.2.1 j x, P.2.2.2.2)
def gAdd (it : Int32) (P : yPs) : yPs := (P.1, P.2.1, P.2.2.1, P.2.2.2.1, P.2.2.2.2 ++ [it])
def gTak (c : Int32) (P : yPs) : yPs := if P.2.1 = 0 then (if k P.1 = c then gStp P else gErr s (-2) P) else P
def gNum (lo hi : Int32) (P : yPs) : Int32 × yPs := if P.2.1 = 0 then (if k P.1 = 256 then (if v P.1 < lo ∨ ¬ v P.1 ≤ hi then (0, gErr s (-3) P) else (v P.1, gStp P)) else (0, gErr s (-2) P)) else (0, P)
/-- a factor; par reads what is in parentheses -/
def gFac (par : yPs → yPs) (P : yPs) : yPs :=
  if ¬ P.2.1 = 0 then P
  else if k P.1 = 256 then gAdd (gNum k v s 0 9999 P).1 (gNum k v s 0 9999 P).2
  else if k P.1 = 263 then gStp (gAdd (-1) P)
  else if k P.1 = 264 then gStp (gAdd (-2) P)
  else if k P.1 = 265 then gStp (gAdd (-3) P)
  else if k P.1 = 266 then gStp (gAdd (-4) P)
  else if k P.1 = 40 then par P
  else gErr s (-2) P
/-- further operands, each behind one of two signs -/
def gLop (a b x y : Int32) (sub : yPs → yPs) : Nat → yPs → yPs
  | 0, P => P
  | f + 1, P => if P.2.1 = 0 ∧ (k P.1 = a ∨ k P.1 = b) then gLop a b x y sub f (gAdd (if k P.1 = a then x else y) (sub (gStp P))) else P
def gTer (par : yPs → yPs) (f : Nat) (P : yPs) : yPs := gLop k 42 47 (-7) (-8) (gFac k v s par) f (gFac k v s par P)
def gSum (par : yPs → yPs) (f : Nat) (P : yPs) : yPs := gLop k 43 45 (-5) (-6) (gTer k v s par f) f (gTer k v s par f P)
/-- parentheses, with at most d more in them -/
def gPar (f : Nat) : Nat → yPs → yPs
  | 0, P => gErr s (-5) P
  | d + 1, P => gTak k s 41 (gSum k v s (gPar f d) f (gStp P))
/-- a statement that may stand there once -/
def gOnc (j : Nat) (P : yPs) : yPs := gPut j 1 (if P.2.2.2.1 j = 0 then gStp P else gErr s (-2) P)
def gNu2 (j : Nat) (lo hi : Int32) (P : yPs) : yPs := gPut j (gNum k v s lo hi P).1 (gNum k v s lo hi P).2
def gPrt (P : yPs) : yPs := gNu2 k v s 1 1 4 (gNu2 k v s 0 1 4 (gOnc s 2000 P))
def gFee (P : yPs) : yPs := gNu2 k v s 7 0 999 (gNu2 k v s 6 0 999 (gOnc s 2001 P))
def gLim (P : yPs) : yPs := gNu2 k v s 8 0 9999 (gOnc s 2003 P)
def gSco (f : Nat) (P : yPs) : yPs := gSum k v s (gPar k v s f 4) f (gPut 9 1 (gOnc s 2002 P))
/-- is the code x there already -/
def gDup (d : Nat → Int32) (x : Int32) : Nat → Bool
  | 0 => false
  | r + 1 => decide (d (20 + 6 * r) = x) || gDup d x r
/-- further types of evidence -/
def gTyp (j : Nat) : Nat → yPs → yPs
  | 0, P => P
  | f + 1, P => if P.2.1 = 0 ∧ k P.1 = 256 then gTyp j f (if v P.1 ≤ 7 ∧ ¬ (P.2.2.2.1 j >>> (v P.1 &&& 31)) &&& 1 = 0 then gErr s (-3) P else gPut j (P.2.2.2.1 j ||| ((1 : Int32) <<< ((gNum k v s 0 7 P).1 &&& 31))) (gNum k v s 0 7 P).2) else P
def gNee (j : Nat) (P : yPs) : yPs := if P.2.1 = 0 ∧ k P.1 = 259 then gTyp k v s j 8 (gPut j ((1 : Int32) <<< ((gNum k v s 0 7 (gStp P)).1 &&& 31)) (gNum k v s 0 7 (gStp P)).2) else P
def gCod (nr j : Nat) (P : yPs) : yPs := if P.2.1 = 0 ∧ k P.1 = 256 ∧ gDup P.2.2.2.1 (v P.1) nr = true then gErr s (-3) P else gNu2 k v s j 0 99 P
def gRea (nr : Nat) (P : yPs) : yPs :=
  if 8 ≤ nr then gErr s (-4) P
  else gPut 2 (nI (nr + 1)) (gNee k v s (20 + 6 * nr + 5) (gPut (20 + 6 * nr + 5) 0 (gNu2 k v s (20 + 6 * nr + 4) 0 9999 (gNu2 k v s (20 + 6 * nr + 3) 1 60 (gNu2 k v s (20 + 6 * nr + 2) 1 60 (gNu2 k v s (20 + 6 * nr + 1) 0 200 (gCod k v s nr (20 + 6 * nr) (gStp P))))))))
def gSta (f : Nat) (P : yPs) : yPs := gTak k s 59 (if k P.1 = 257 then gPrt k v s P else if k P.1 = 258 then gRea k v s (tn (P.2.2.2.1 2)) P else if k P.1 = 260 then gFee k v s P else if k P.1 = 261 then gSco k v s f P else if k P.1 = 262 then gLim k v s P else gErr s (-2) P)
/-- the whole text -/
def gAll (f : Nat) : Nat → yPs → yPs
  | 0, P => P
  | g + 1, P => if P.2.1 = 0 ∧ ¬ k P.1 = -1 then gAll f g (gSta k v s f P) else P
end Gram
