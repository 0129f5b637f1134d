/-! the law's loop: what must hold ahead of it; the script is the cell sc - 1000, its ints and their number being X and L -/
noncomputable def fxL_step (sc : Nat) (X : Nat → Int) (L : Int) (C : fxC) (rm : List (Nat × Nat × Nat)) (tb : zxTB) (rl : Nat × Nat) (kr : fxK) (k : fxZ) : fxZ := fun pc lv stk S => match zx_row tb pc with
  | (op, _, _, nxt, _) => cond (Nat.beq op 78) (match stk with | .inl x :: .inr (.inr q) :: r => q = (sc, 0) ∧ (0 ≤ x ∧ x < L) ∧ ∀ z : Int, -2147483648 ≤ z → z < 2147483648 → z = X x.toNat → k nxt lv (.inl z :: r) S | _ => False)
    (cond (Nat.beq op 79) (match stk with | .inr (.inr q) :: r => q = (sc, 0) ∧ k nxt lv (.inl L :: r) S | _ => False) (fx_step C rm tb rl kr k pc lv stk S))
noncomputable def fxLaw (sc : Nat) (X : Nat → Int) (L : Int) (C : fxC) (rm : List (Nat × Nat × Nat)) (tb : zxTB) (rl : Nat × Nat) (cuts : List (Nat × List Nat)) (K : fxZ) (kr : fxK) : Nat → fxZ
  | 0 => fun _ _ _ _ => False
  | n + 1 => fxL_step sc X L C rm tb rl kr (fun pc lv stk S => match fx_cut cuts pc with | some live => K pc (fx_mask live 0 lv) stk S | none => fxLaw sc X L C rm tb rl cuts K kr n pc lv stk S)
