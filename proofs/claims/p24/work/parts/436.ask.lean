def yMT (v : Nat → Int32) (i1 : Int32) : Int32 := if i1 = 0 then v 0 else if i1 = 1 then v 1 else if i1 = 2 then v 2 else if i1 = 3 then v 3 else if i1 = 4 then v 4 else if i1 = 5 then v 5 else if i1 = 6 then v 6 else if i1 = 7 then v 7 else if i1 = 8 then v 8 else if i1 = 9 then v 9 else if i1 = 10 then v 10 else if i1 = 11 then v 11 else if i1 = 12 then v 12 else if i1 = 13 then v 13 else if i1 = 14 then v 14 else v 15
def yMv (r k c g s : Nat) (G H B K : Nat → Nat → Int32) (be wo : Int32) (Rn Rk : Nat) (run : Int32 × Int32 × Int32) (n : Nat) : Int32 := match n with
  | 0 => nI r
  | 1 => nI k
  | 2 => nI c
  | 3 => nI g
  | 4 => nI s
  | 5 => nI (yJst r k c g G H)
  | 6 => nI (ySk k (yIdle g r G c H))
  | 7 => nI (yCount 5 5 B)
  | 8 => nI (yCount 5 5 K)
  | 9 => be
  | 10 => wo
  | 11 => run.1
  | 12 => run.2.1
  | 13 => run.2.2
  | 14 => nI Rn
  | _ => if Rn = 0 then 0 else nI Rk
def yCT (B K U : Nat → Nat → Int32) (v2 v3 : Int32) (i j : Nat) (i3 : Int32) : Int32 := if i3 = 0 then (if K i j = 0 then yb (!decide (B i j = 0)) else 2) else if i3 = 1 then U i j else if i3 = 2 then v2 else v3
