/-! What must hold ahead of a piece of code that what is wanted holds behind it. Numbers are whole numbers; a reference is a group and a number; the state: group, number, slot. -/
abbrev fxV : Type := Int ⊕ (Int ⊕ (Nat × Nat))
abbrev fxS : Type := Nat → Nat → Nat → Int
abbrev fxL : Type := List (Option fxV)
abbrev fxK : Type := Option fxV → fxS → Prop
abbrev fxZ : Type := Nat → fxL → List fxV → fxS → Prop
abbrev fxC : Type := Nat → List fxV → fxS → fxK → Prop
abbrev fxH : Type := Nat → Nat → Nat → List Nat → fxL → List fxV → fxS → fxZ → Prop
noncomputable def fx_g (g : Nat) : fxGr := zx_N (0, 0, 0, 0, 0, []) fx_groups g
/-- what a slot holds -/
noncomputable def fx_slr (r : fxGr) (j : Nat) : fxSl := zx_N (9, 0, 0, 0, 0) r.2.2.2.2.2 (cond (Nat.blt r.1 16) 0 j)
noncomputable def fx_sl (g j : Nat) : fxSl := fx_slr (fx_g g) j
def fx_up (S : fxS) (g i j : Nat) (z : Int) : fxS := fun g' i' j' => if g' = g ∧ i' = i ∧ j' = j then z else S g' i' j'
def fx_lk : fxL → Nat → Option fxV
  | [], _ => none
  | v :: _, 0 => v
  | _ :: l, i + 1 => fx_lk l i
def fx_long (v : fxV) : Bool := match v with | .inr (.inl _) => true | _ => false
def fx_dw (v : Option fxV) : Option fxV := match v with | some w => cond (fx_long w) none (some w) | none => none
def fx_n0 (l : fxL) : fxL := match l with | _ :: r => none :: r | [] => []
/-- a local is stored -/
def fx_sto : fxL → Nat → fxV → fxL
  | [], _, _ => []
  | _ :: l, 0, v => some v :: cond (fx_long v) (fx_n0 l) l
  | a :: l, 1, v => fx_dw a :: fx_sto l 0 v
  | a :: l, i + 2, v => a :: fx_sto l (i + 1) v
def fh_push : fxH := fun a _ nxt _ lv stk S k => cond (Nat.blt (a / 8) 4294967296) (k nxt lv (.inl (zx_sI (a / 8)) :: stk) S) False
def fx_sL (n : Nat) : Int := if n < 9223372036854775808 then (n : Int) else (n : Int) - 18446744073709551616
def fh_pushl : fxH := fun a _ nxt _ lv stk S k => cond (Nat.blt (a / 8) 18446744073709551616) (k nxt lv (.inr (.inl (fx_sL (a / 8))) :: stk) S) False
def fh_iload : fxH := fun a _ nxt _ lv stk S k => match fx_lk lv a with | some (.inl z) => k nxt lv (.inl z :: stk) S | _ => False
def fh_lload : fxH := fun a _ nxt _ lv stk S k => match fx_lk lv a with | some (.inr (.inl z)) => k nxt lv (.inr (.inl z) :: stk) S | _ => False
def fh_aload : fxH := fun a _ nxt _ lv stk S k => match fx_lk lv a with | some (.inr (.inr q)) => k nxt lv (.inr (.inr q) :: stk) S | _ => False
def fh_istore : fxH := fun a b nxt _ lv stk S k => match stk with | .inl z :: r => (a < b) ∧ k nxt (fx_sto lv a (.inl z)) r S | _ => False
def fh_astore : fxH := fun a b nxt _ lv stk S k => match stk with | .inr (.inr q) :: r => (a < b) ∧ k nxt (fx_sto lv a (.inr (.inr q))) r S | _ => False
def fh_lstore : fxH := fun a b nxt _ lv stk S k => match stk with | .inr (.inl z) :: r => (a + 1 < b) ∧ k nxt (fx_sto lv a (.inr (.inl z))) r S | _ => False
def fh_iinc : fxH := fun a b nxt d lv stk S k => match d, fx_lk lv a with | [n], some (.inl z) => (a < b ∧ n < 4294967296) ∧ (-2147483648 ≤ z + zx_sI n ∧ z + zx_sI n < 2147483648) ∧ k nxt (fx_sto lv a (.inl (z + zx_sI n))) stk S | _, _ => False
/-- in the bounds of an int: exact; a = 1: any int, the sum if that is within; a = 2: the sum as an int wraps it -/
def fx_ar (a : Nat) (z : Int) (k : Int → Prop) : Prop := cond (Nat.beq a 1) (∀ y : Int, -2147483648 ≤ y → y < 2147483648 → (-2147483648 ≤ z ∧ z < 2147483648 → y = z) → k y) (cond (Nat.beq a 2) (∀ y : Int, -2147483648 ≤ y → y < 2147483648 → y = (Int32.ofInt z).toInt → k y) ((-2147483648 ≤ z ∧ z < 2147483648) ∧ k z))
def fh_iadd : fxH := fun a _ nxt _ lv stk S k => match stk with | .inl y :: .inl x :: r => fx_ar a (x + y) (fun z => k nxt lv (.inl z :: r) S) | _ => False
def fh_isub : fxH := fun a _ nxt _ lv stk S k => match stk with | .inl y :: .inl x :: r => fx_ar a (x - y) (fun z => k nxt lv (.inl z :: r) S) | _ => False
def fh_imul : fxH := fun a _ nxt _ lv stk S k => match stk with | .inl y :: .inl x :: r => fx_ar a (x * y) (fun z => k nxt lv (.inl z :: r) S) | _ => False
def fh_idiv : fxH := fun _ _ nxt _ lv stk S k => match stk with | .inl y :: .inl x :: r => (0 ≤ x ∧ 0 < y) ∧ k nxt lv (.inl (x / y) :: r) S | _ => False
def fh_irem : fxH := fun _ _ nxt _ lv stk S k => match stk with | .inl y :: .inl x :: r => (0 ≤ x ∧ 0 < y) ∧ k nxt lv (.inl (x % y) :: r) S | _ => False
def fh_iand : fxH := fun _ _ nxt _ lv stk S k => match stk with | .inl y :: .inl x :: r => 0 ≤ y ∧ ∀ z : Int, 0 ≤ z → z ≤ y → (y = 255 → z = x % 256) → k nxt lv (.inl z :: r) S | _ => False
/-- ishl, iushr, ior, ixor -/
def fx_bop (a : Nat) (x y : Int) : Int := (cond (Nat.beq a 0) (Int32.ofInt x <<< (Int32.ofInt y &&& 31)) (cond (Nat.beq a 1) ((Int32.ofInt x).toUInt32 >>> ((Int32.ofInt y).toUInt32 &&& Int32.toUInt32 31)).toInt32 (cond (Nat.beq a 2) (Int32.ofInt x ||| Int32.ofInt y) (Int32.ofInt x ^^^ Int32.ofInt y)))).toInt
def fh_bin : fxH := fun a _ nxt _ lv stk S k => match stk with | .inl y :: .inl x :: r => ∀ z : Int, -2147483648 ≤ z → z < 2147483648 → z = fx_bop a x y → k nxt lv (.inl z :: r) S | _ => False
def fh_ineg : fxH := fun _ _ nxt _ lv stk S k => match stk with | .inl x :: r => ∀ z : Int, -2147483648 ≤ z → z < 2147483648 → (-2147483648 < x → z = -x) → k nxt lv (.inl z :: r) S | _ => False
def fh_i2b : fxH := fun _ _ nxt _ lv stk S k => match stk with | .inl _ :: r => ∀ z : Int, -128 ≤ z → z ≤ 127 → k nxt lv (.inl z :: r) S | _ => False
def fh_i2l : fxH := fun _ _ nxt _ lv stk S k => match stk with | .inl x :: r => k nxt lv (.inr (.inl x) :: r) S | _ => False
def fh_l2i : fxH := fun _ _ nxt _ lv stk S k => match stk with | .inr (.inl _) :: r => ∀ z : Int, -2147483648 ≤ z → z < 2147483648 → k nxt lv (.inl z :: r) S | _ => False
/-- a long and an int, any long -/
def fh_lsh : fxH := fun _ _ nxt _ lv stk S k => match stk with | .inl _ :: .inr (.inl _) :: r => ∀ z : Int, k nxt lv (.inr (.inl z) :: r) S | _ => False
def fh_lbin : fxH := fun _ _ nxt _ lv stk S k => match stk with | .inr (.inl _) :: .inr (.inl _) :: r => ∀ z : Int, k nxt lv (.inr (.inl z) :: r) S | _ => False
def fh_lcmp : fxH := fun _ _ nxt _ lv stk S k => match stk with | .inr (.inl y) :: .inr (.inl x) :: r => (x < y → k nxt lv (.inl (-1) :: r) S) ∧ (x = y → k nxt lv (.inl 0 :: r) S) ∧ (y < x → k nxt lv (.inl 1 :: r) S) | _ => False
def fx_cmp (b : Nat) (x y : Int) (t f : Prop) : Prop :=
  cond (Nat.beq b 2) ((x = y → t) ∧ (x ≠ y → f)) (cond (Nat.beq b 5) ((x ≠ y → t) ∧ (x = y → f)) (cond (Nat.beq b 1) ((x < y → t) ∧ (y ≤ x → f)) (cond (Nat.beq b 6) ((y ≤ x → t) ∧ (x < y → f)) (cond (Nat.beq b 4) ((y < x → t) ∧ (x ≤ y → f)) ((x ≤ y → t) ∧ (y < x → f))))))
def fh_icmp : fxH := fun a b nxt _ lv stk S k => match stk with | .inl y :: .inl x :: r => fx_cmp b x y (k a lv r S) (k nxt lv r S) | _ => False
def fh_if : fxH := fun a b nxt _ lv stk S k => match stk with | .inl x :: r => fx_cmp b x 0 (k a lv r S) (k nxt lv r S) | _ => False
def fh_goto : fxH := fun a _ _ _ lv stk S k => k a lv stk S
def fx_sw : List Nat → Nat → Int → Int → (Nat → Prop) → Prop
  | [], t, _, _, k => k t
  | q :: d, t, z, b, k => (z = b → k q) ∧ (z ≠ b → fx_sw d t z (b + 1) k)
def fh_switch : fxH := fun a b _ d lv stk S k => match stk with | .inl z :: r => fx_sw d a z ((b : Int) - 2147483648) (fun t => k t lv r S) | _ => False
def fh_dup : fxH := fun _ _ nxt _ lv stk S k => match stk with | c :: r => cond (fx_long c) False (k nxt lv (c :: c :: r) S) | _ => False
def fh_pop : fxH := fun _ _ nxt _ lv stk S k => match stk with | c :: r => cond (fx_long c) False (k nxt lv r S) | _ => False
def fh_dupx1 : fxH := fun _ _ nxt _ lv stk S k => match stk with | c :: e :: r => cond (fx_long c || fx_long e) False (k nxt lv (c :: e :: c :: r) S) | _ => False
def fh_dup2 : fxH := fun _ _ nxt _ lv stk S k => match stk with | c :: e :: r => cond (fx_long c || fx_long e) False (k nxt lv (c :: e :: c :: e :: r) S) | _ => False
def fh_pop2 : fxH := fun _ _ nxt _ lv stk S k => match stk with | .inr (.inl _) :: r => k nxt lv r S | _ => False
noncomputable def fh_alen : fxH := fun _ _ nxt _ lv stk S k => match stk with | .inr (.inr (g, _)) :: r => (match fx_g g with | (kd, n, _) => cond (Nat.blt 0 kd && Nat.blt kd 16) (k nxt lv (.inl (n : Int) :: r) S) False) | _ => False
/-- where a reference of a slot leads -/
def fx_to (g' mode i j : Nat) : Nat × Nat := (g', cond (Nat.beq mode 0) i (cond (Nat.beq mode 1) 0 j))
noncomputable def fh_get : fxH := fun _ b nxt d lv stk S k => match stk with
  | .inr (.inr (g, i)) :: r => (match fx_g g with | (kd, n, _) => cond (zx_mem kd d && Nat.blt b n) (match fx_sl g b with
      | (so, g', mode, lo, hi) => cond (Nat.ble so 1) (∀ z : Int, lo ≤ z → z ≤ hi → z = S g i b → k nxt lv (.inl z :: r) S) (cond (Nat.beq so 2) (∀ z : Int, k nxt lv (.inr (.inl z) :: r) S) (cond (Nat.beq so 3) (k nxt lv (.inr (.inr (fx_to g' mode i b)) :: r) S) False))) False)
  | _ => False
def fx_pv1 (v : fxV) (P : Int → Prop) : Prop := match v with | .inl z => P z | _ => False
def fx_pv2 (v : fxV) (P : Prop) : Prop := match v with | .inr (.inl _) => P | _ => False
noncomputable def fh_put : fxH := fun _ b nxt d lv stk S k => match stk with
  | v :: .inr (.inr (g, i)) :: r => (match fx_g g with | (kd, n, _) => cond (zx_mem kd d && Nat.blt (b % 64) n) (match fx_sl g (b % 64) with
      | (so, _, _, lo, hi) => cond (Nat.ble so 1) (fx_pv1 v (fun z => cond (Nat.beq so (b / 64 % 4)) ((lo ≤ z ∧ z ≤ hi) ∧ k nxt lv r (fx_up S g i (b % 64) z)) False)) (cond (Nat.beq so 2 && Nat.beq (b / 64 % 4) 2) (fx_pv2 v (k nxt lv r S)) False)) False)
  | _ => False
noncomputable def fh_ald : fxH := fun a _ nxt _ lv stk S k => match stk with
  | .inl x :: .inr (.inr (g, i)) :: r => (match fx_g g with | (kd, n, _) => cond (Nat.beq kd a) ((0 ≤ x ∧ x < (n : Int)) ∧ (match fx_sl g 0 with
      | (_, _, _, lo, hi) => cond (Nat.blt kd 4) (∀ z : Int, lo ≤ z → z ≤ hi → z = S g i x.toNat → k nxt lv (.inl z :: r) S) (∀ z : Int, k nxt lv (.inr (.inl z) :: r) S))) False)
  | _ => False
noncomputable def fh_aald : fxH := fun a _ nxt _ lv stk S k => match stk with
  | .inl x :: .inr (.inr (g, i)) :: r => (match fx_g g with | (kd, n, _) => cond (Nat.beq kd a) ((0 ≤ x ∧ x < (n : Int)) ∧ (match fx_sl g 0 with
      | (_, g', mode, _, _) => k nxt lv (.inr (.inr (fx_to g' mode i x.toNat)) :: r) S)) False)
  | _ => False
noncomputable def fh_ast : fxH := fun a _ nxt _ lv stk S k => match stk with
  | v :: .inl x :: .inr (.inr (g, i)) :: r => (match fx_g g with | (kd, n, _) => cond (Nat.beq kd a) ((0 ≤ x ∧ x < (n : Int)) ∧ (match fx_sl g 0 with | (_, _, _, lo, hi) => cond (Nat.beq kd 4) (fx_pv2 v (k nxt lv r S)) (fx_pv1 v (fun z => cond (Nat.beq kd 2) (∀ y : Int, -128 ≤ y → y ≤ 127 → (-128 ≤ z → z ≤ 127 → y = z) → k nxt lv r (fx_up S g i x.toNat y)) (cond (Nat.beq kd 1 || Nat.beq kd 3) ((lo ≤ z ∧ z ≤ hi) ∧ k nxt lv r (fx_up S g i x.toNat z)) False))))) False)
  | _ => False
def fh_no : fxH := fun _ _ _ _ _ _ _ _ => False
/-- in the order of the rows' numbers -/
noncomputable def fx_hands : List fxH := [fh_aload, fh_iload, fh_get, fh_push, fh_iload, fh_iadd, fh_icmp, fh_if, fh_ald, fh_goto, fh_iinc, fh_push, fh_push, fh_istore, fh_istore, fh_put, fh_ast, fh_imul, fh_aald, fh_isub, fh_i2l, fh_lcmp, fh_lload, fh_lload, fh_pushl, fh_pushl, fh_dup, fh_pop, fh_dupx1, fh_aload, fh_astore, fh_astore, fh_ald, fh_ald, fh_ast, fh_ast, fh_ald, fh_ast, fh_no, fh_i2b, fh_l2i, fh_lsh, fh_lsh, fh_lbin, fh_lbin, fh_iand, fh_switch, fh_no, fh_no, fh_no, fh_alen, fh_push, fh_no]
/-- idiv, irem, any int of two, ineg, dup2, lstore_n, lstore, ldc_w -/
noncomputable def fx_more : List fxH := [fh_idiv, fh_irem, fh_bin, fh_ineg, fh_dup2, fh_lstore, fh_lstore, fh_push, fh_pop2]
def fx_take : Nat → List fxV → List fxV → (List fxV → List fxV → Prop) → Prop
  | 0, stk, acc, k => k acc stk
  | n + 1, c :: r, acc, k => fx_take n r (c :: acc) k
  | _ + 1, [], _, _ => False
def fx_ret (r : Option fxV) (rest : List fxV) : List fxV := match r with | some v => v :: rest | none => rest
def fx_cat : List fxV → Nat
  | [] => 0
  | v :: l => cond (fx_long v) (fx_cat l + 2) (fx_cat l + 1)
/-- a place where a walk is cut: which locals live there -/
def fx_cut : List (Nat × List Nat) → Nat → Option (List Nat)
  | [], _ => none
  | (p, l) :: r, pc => cond (Nat.beq p pc) (some l) (fx_cut r pc)
def fx_has : List Nat → Nat → Bool
  | [], _ => false
  | x :: l, i => cond (Nat.beq x i) true (fx_has l i)
def fx_mask (live : List Nat) : Nat → fxL → fxL
  | _, [] => []
  | i, v :: l => cond (fx_has live i) v none :: fx_mask live (i + 1) l
/-- the kind of an object, a call's receiver -/
noncomputable def fx_kind (v : fxV) : Nat := match v with | .inr (.inr (g, _)) => (match fx_g g with | (kd, _) => kd) | _ => 0
/-- general arraycopy between arrays of ints or of bytes: what is copied is told, no more -/
noncomputable def fx_acopy (nxt : Nat) (lv : fxL) (stk : List fxV) (S : fxS) (k : fxZ) : Prop := match stk with
  | .inl n :: .inl dp :: .inr (.inr (g, i)) :: .inl sp :: .inr (.inr (g0, i0)) :: [] => (match fx_g g, fx_g g0 with
      | (kd, len, _), (kd0, len0, _) => match fx_sl g 0, fx_sl g0 0 with
        | (_, _, _, lo, hi), (_, _, _, lo0, hi0) => cond (Nat.beq kd kd0 && (Nat.beq kd 1 || Nat.beq kd 2)) ((lo ≤ lo0 ∧ hi0 ≤ hi) ∧ ((0 ≤ sp ∧ 0 ≤ dp) ∧ (0 ≤ n ∧ sp + n ≤ (len0 : Int) ∧ dp + n ≤ (len : Int))) ∧ k nxt lv [] (fun g' i' j => if g' = g ∧ i' = i ∧ (dp ≤ (j : Int) ∧ (j : Int) < dp + n) then S g0 i0 ((j : Int) - dp + sp).toNat else S g' i' j)) False)
  | _ => False
/-- Math.max, Math.min, Math.abs -/
def fx_math (b nxt : Nat) (lv : fxL) (stk : List fxV) (S : fxS) (k : fxZ) : Prop :=
  cond (Nat.beq b 2) (match stk with | .inl x :: r => cond (Nat.ble (fx_cat r) 8) (∀ z : Int, -2147483648 ≤ z → z < 2147483648 → (-2147483648 < x → 0 ≤ z ∧ (z = x ∨ z = -x)) → k nxt lv (.inl z :: r) S) False | _ => False)
    (match stk with | .inl y :: .inl x :: r => cond (Nat.ble (fx_cat r) 8) (cond (Nat.beq b 0) (∀ z : Int, x ≤ z → y ≤ z → (z = x ∨ z = y) → k nxt lv (.inl z :: r) S) (∀ z : Int, z ≤ x → z ≤ y → (z = x ∨ z = y) → k nxt lv (.inl z :: r) S)) False | _ => False)
/-- room for a call: frames and words of the callee, its locals -/
noncomputable def fx_room (rm : List (Nat × Nat × Nat)) (rl : Nat × Nat) (b : Nat) : Bool := match zx_N (9999, 9999, 9999) rm b with | (f, w, mL) => Nat.ble (f + 1) rl.1 && Nat.ble (19 + mL + w) rl.2
noncomputable def fx_step (C : fxC) (rm : List (Nat × Nat × Nat)) (tb : zxTB) (rl : Nat × Nat) (kr : fxK) (k : fxZ) : fxZ := fun pc lv stk S => match zx_row tb pc with
  | (op, a, b, nxt, d) => cond (Nat.blt op 55) (zx_N fh_no fx_hands op a b nxt d lv stk S k)
    (cond (Nat.blt op 64) (zx_N fh_no fx_more (op - 55) a b nxt d lv stk S k)
    (cond (Nat.beq op 64) (match stk with | [.inl z] => kr (some (.inl z)) S | _ => False)
    (cond (Nat.beq op 65) (match stk with | [.inl z] => (0 ≤ z ∧ z ≤ 1) ∧ kr (some (.inl z)) S | _ => False)
    (cond (Nat.beq op 66) (match stk with | [.inr (.inl z)] => kr (some (.inr (.inl z))) S | _ => False)
    (cond (Nat.beq op 67) (match stk with | [] => kr none S | _ => False)
    (cond (Nat.beq op 70) (match d with | [n, t] => fx_take n stk [] (fun args rest => match args with | c :: _ => cond (Nat.beq (fx_kind c) t && (Nat.ble (fx_cat rest) 8 && fx_room rm rl b)) (C b args S (fun r S' => k nxt lv (fx_ret r rest) S')) False | [] => False) | _ => False)
    (cond (Nat.beq op 73) (match d with | [n] => fx_take n stk [] (fun args rest => cond (Nat.ble (fx_cat rest) 8 && fx_room rm rl b) (C b args S (fun r S' => k nxt lv (fx_ret r rest) S')) False) | _ => False)
    (cond (Nat.beq op 74) (match d with | [n, t, t'] => fx_take n stk [] (fun args rest => match args with | c :: _ => cond ((Nat.beq (fx_kind c) t || Nat.beq (fx_kind c) t') && (Nat.ble (fx_cat rest) 8 && fx_room rm rl b)) (C b args S (fun r S' => k nxt lv (fx_ret r rest) S')) False | [] => False) | _ => False)
    (cond (Nat.beq op 76) (cond (Nat.ble 1 rl.1 && Nat.ble 60 rl.2) (fx_acopy nxt lv stk S k) False)
    (cond (Nat.beq op 90) (cond (Nat.ble 1 rl.1 && Nat.ble 60 rl.2) (fx_math b nxt lv stk S k) False)
    (cond (Nat.beq op 77) (match stk with | .inr (.inl _) :: r => cond (Nat.ble (fx_cat r) 8 && (Nat.ble 2 rl.1 && Nat.ble 60 rl.2)) (∀ z : Int, 0 ≤ z → z ≤ 1 → k nxt lv (.inl z :: r) S) False | _ => False) False)))))))))))
noncomputable def fx (C : fxC) (rm : List (Nat × Nat × Nat)) (tb : zxTB) (rl : Nat × Nat) (cuts : List (Nat × List Nat)) (K : fxZ) (kr : fxK) : Nat → fxZ
  | 0 => fun _ _ _ _ => False
  | n + 1 => fx_step C rm tb rl kr (fun pc lv stk S => match fx_cut cuts pc with | some live => K pc (fx_mask live 0 lv) stk S | none => fx C rm tb rl cuts K kr n pc lv stk S)
