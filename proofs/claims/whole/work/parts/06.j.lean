/-! String.length, String.charAt of String constants: methods that leave the heap alone -/
section PUR
variable {p : Program} {l : Launch} {e : Env} {R : Room} {s : State} {m : MethodId} {args : Array Value} {below : List Frame} {meth : Method} {c : Code} {H : Heap} {locs : List Loc} {cells slots : Nat} {Q : State → Prop}
variable {dC : Nat → ClassId} {dI : Nat → Nat → Nat} {sa : Nat → Nat} {A : Nat → Prop} {w : va_W} {tys : List (ClassId × FieldType)} {v : Option Value}
variable {y : MethodName} {bytes cc : ByteArray} {maxL nL n index : Nat} {ret : Option FieldType} {ws : List Cond} {rm : Room} {Ts : List Cond} {own Cn : String} {b : Addr} {As rest st0 : List Value} {pc : Nat} {ls : Array Slot} {av : List Value}
end PUR
/-- the char at k of the constant i -/
noncomputable def chS (i k : Nat) : Int32 := (bytS.getD i []).getD k 0 &&& 255
theorem lenS_small : ∀ i : Nat, i < 20 → lenS.getD i 0 < 2 ^ 31 := by decide +kernel
