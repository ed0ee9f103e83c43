-- needs 
/-! costs and units of the reference -/
def woF (S : gS) (j : Nat) : Int32 := if rI S 128 j = 0 then 0 else nI (hiN (rI S 128 j)) + 1
abbrev nsP (S : gS) (j : Nat) : Prop := rL S 125 j < 0 ∧ woF S j = rI S 127 j
def cbF (k n : Int32) : Int32 := if k = 2 then 4 * n else if k = 5 then n * n else if k = 12 then 2 * n else if ¬ k < 3 ∧ ¬ 8 < k then n else 0
def coF (S : gS) (j : Nat) : Int32 := if rI S 116 j = 11 then (if woF S j = 0 then 0 else if woF S (rI S 117 j).toNatClampNeg ≤ woF S (rI S 118 j).toNatClampNeg then woF S (rI S 118 j).toNatClampNeg else woF S (rI S 117 j).toNatClampNeg) else cbF (rI S 116 j) (woF S j)
def ucF (k w s : Int32) : Int32 := cbF k w + w * (s - 1)
def gwF (S : gS) (u j : Nat) : Int32 := if woF S j ≤ rI S 130 u then rI S 130 u else woF S j
def grF (S : gS) (u j : Nat) : Int32 := ucF (rI S 129 u) (gwF S u j) (rI S 131 u + 1) - ucF (rI S 129 u) (rI S 130 u) (rI S 131 u)
def jnF (S : gS) (u j : Nat) (uv : Int32) : gS := wI (wI (wI (wI S 130 u (gwF S u j)) 131 u (rI S 131 u + 1)) 133 u (rI S 133 u ||| 1 <<< (rI S 122 j &&& 31))) 134 j uv
