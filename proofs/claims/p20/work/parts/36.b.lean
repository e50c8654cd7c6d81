/-! what is asked -/
noncomputable def raS (w : Int32) (s : AS) : OP := if w = 0 then (0, s.1 44, s) else if w = 1 then (0, s.1 45, s) else if w = 2 then (0, s.1 40, s) else if w = 3 then (0, s.1 41, s) else if w = 4 then (0, s.1 42, s) else if w = 5 then (0, s.1 43, s) else (1, 0, s)
noncomputable def vaS (v w : Int32) (s : AS) : OP := if inV v then (if w = 0 then (0, s.2 4 v.toNatClampNeg, s) else if w = 1 then (0, s.2 5 v.toNatClampNeg, s) else if w = 2 then (0, s.2 6 v.toNatClampNeg, s) else if w = 3 then (0, s.2 7 v.toNatClampNeg, s) else if w = 4 then (0, s.2 8 v.toNatClampNeg, s) else if w = 5 then (0, s.2 9 v.toNatClampNeg, s) else (1, 0, s)) else (1, 0, s)
noncomputable def abS (k w : Int32) (s : AS) : OP := if inC s k then (if w = 0 then (0, s.2 13 k.toNatClampNeg, s) else if w = 1 then (0, s.2 14 k.toNatClampNeg, s) else if w = 2 then (0, s.2 15 k.toNatClampNeg, s) else if w = 3 then (0, shA s k.toNatClampNeg, s) else if w = 4 then (0, dyA (s.2 16 k.toNatClampNeg), s) else if w = 5 then (0, s.2 16 k.toNatClampNeg, s) else if w = 6 then (0, s.2 17 k.toNatClampNeg, s) else if w = 7 then (0, s.2 18 k.toNatClampNeg, s) else (1, 0, s)) else (1, 0, s)
noncomputable def ctS (w : Int32) (s : AS) : OP := if w = 0 then (0, s.1 1, s) else if w = 1 then (0, s.1 2, s) else if w = 2 then (0, s.1 12, s) else if w = 3 then (0, s.1 3, s) else if w = 4 then (0, s.1 20, s) else if w = 5 then (0, s.1 37, s) else (1, 0, s)
noncomputable abbrev hsA (s : AS) (k : Nat) (d : Int32) : Prop := ¬ s.2 16 k = -1 ∧ s.2 16 k ≤ d
/-- the least shade, and the greatest -/
noncomputable def lsV (sh da d : Int32) : Int32 := if 0 < sh - 3 * (d - da) / 100 then sh - 3 * (d - da) / 100 else 0
noncomputable def gsV (sh da d : Int32) : Int32 := if 0 < sh - (d - da) / 100 then sh - (d - da) / 100 else 0
noncomputable def lsA (s : AS) (k : Nat) (d : Int32) : Int32 := lsV (shA s k) (s.2 16 k) d
noncomputable def gsA (s : AS) (k : Nat) (d : Int32) : Int32 := gsV (shA s k) (s.2 16 k) d
noncomputable def faS (k d w : Int32) (s : AS) : OP := if inC s k then (if (0 ≤ w ∧ w ≤ 1) ∧ 0 ≤ d ∧ d ≤ 1000000 then (if hsA s k.toNatClampNeg d then (0, if w = 0 then lsA s k.toNatClampNeg d else gsA s k.toNatClampNeg d, s) else (0, -1, s)) else (2, 0, s)) else (1, 0, s)
noncomputable abbrev mtA (s : AS) (k j : Nat) (d : Int32) : Prop := hsA s k d ∧ hsA s j d ∧ lsA s k d ≤ gsA s j d ∧ lsA s j d ≤ gsA s k d
noncomputable def mtF (s : AS) (k : Nat) (d : Int32) : Nat → Int32
  | 0 => 0
  | n + 1 => if ¬ n = k ∧ mtA s k n d then mtF s k d n ||| (1 <<< (nI n &&& 31)) else mtF s k d n
noncomputable def maS (k d : Int32) (s : AS) : OP := if inC s k then (if 0 ≤ d ∧ d ≤ 1000000 then (0, mtF s k.toNatClampNeg d (s.1 12).toNatClampNeg, s) else (2, 0, s)) else (1, 0, s)
theorem dyA_0 {x : Int32} : ¬ dyA x = 0 ↔ ¬ x = -1 := by
  unfold dyA
  by_cases h : x = -1
  · rw [if_pos h]; exact ⟨fun e => absurd rfl e, fun e => absurd h e⟩
  · rw [if_neg h]; exact ⟨fun _ => h, fun _ => by decide⟩
