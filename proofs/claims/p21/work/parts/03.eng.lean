/-! An abstract run of bytecode, by computation. A number n codes a value: n % 8 its sort, n / 8 its payload.
0 int, 1 long, 2 null (payload 0) or the script (payload 1), 3 a cell of the world by its place, 4 an unknown int that has a name, 5 the same as a long, 6 any int, 7 a long (payload 0: any) -/
abbrev zxLV : Type := List (Nat × Nat)
abbrev zxCE : Type := Nat × Nat × List Nat × List (Nat × Nat)
abbrev zxHP : Type := Nat × List (List zxCE)
abbrev zxST : Type := List (Nat × Nat × Nat)
abbrev zxKT : Type := Nat → zxLV → List Nat → zxHP → zxST → Nat → Nat → Bool
abbrev zxHD : Type := Nat → Nat → Nat → List Nat → zxLV → List Nat → zxHP → zxST → Nat → Nat → zxKT → Bool
noncomputable def zx_N {α : Type} (d : α) (l : List α) : Nat → α := List.rec (motive := fun _ => Nat → α) (fun _ => d) (fun x _ ih i => Nat.rec (motive := fun _ => α) x (fun j _ => ih j) i) l
noncomputable def zx_F {β : Type} (n : Nat) (k : Nat → β) : β := Nat.rec (motive := fun _ => β) (k 0) (fun j _ => k (Nat.succ j)) n
noncomputable def zx_S {α β : Type} (l : List α) : Nat → α → (List α → β) → β := List.rec (motive := fun _ => Nat → α → (List α → β) → β) (fun _ _ k => k []) (fun x xs ih i v k => Nat.rec (motive := fun _ => β) (k (v :: xs)) (fun j _ => ih j v (fun r => k (x :: r))) i) l
noncomputable def zx_P {α β : Type} (l : List α) (v : α) : (List α → β) → β := List.rec (motive := fun _ => (List α → β) → β) (fun k => k [v]) (fun x _ ih k => ih (fun r => k (x :: r))) l
noncomputable def zx_A (l : List (Nat × Nat)) (d i : Nat) : Nat := List.rec (motive := fun _ => Nat) d (fun q _ ih => match q with | (a, v) => cond (Nat.beq a i) v ih) l
noncomputable def zx_Z {α : Type} (l : List α) : Nat := List.rec (motive := fun _ => Nat) 0 (fun _ _ ih => Nat.succ ih) l
def zx_i (c : Nat) : Bool := Nat.beq (c % 8) 0 || (Nat.beq (c % 8) 4 || Nat.beq (c % 8) 6)
def zx_2 (c : Nat) : Bool := Nat.beq (c % 8) 1 || (Nat.beq (c % 8) 5 || Nat.beq (c % 8) 7)
def zx_r (c : Nat) : Bool := Nat.beq (c % 8) 3 || Nat.beq c 10
def zx_drop (wide : Bool) (i : Nat) (q : Nat × Nat) : Bool := match q with | (a, v) => Nat.beq a i || ((Nat.beq (Nat.succ a) i && zx_2 v) || (wide && Nat.beq a (Nat.succ i)))
noncomputable def zx_L {β : Type} (wide : Bool) (i : Nat) (l : zxLV) : (zxLV → β) → β := List.rec (motive := fun _ => (zxLV → β) → β) (fun k => k []) (fun q _ ih k => cond (zx_drop wide i q) (ih k) (ih (fun r => k (q :: r)))) l
noncomputable def zx_G (h : zxHP) (k : Nat) : zxCE := match h with | (_, cs) => zx_N (0, 0, [], []) (zx_N [] cs (k / 32)) (k % 32)
noncomputable def zx_H {β : Type} (h : zxHP) (k : Nat) (E : zxCE) (kk : zxHP → β) : β := match h with | (n, cs) => zx_S (zx_N [] cs (k / 32)) (k % 32) E (fun ch => zx_S cs (k / 32) ch (fun cs2 => kk (n, cs2)))
/-- a new cell behind the last one -/
noncomputable def zx_B (h : zxHP) (E : zxCE) (kk : Nat → zxHP → Bool) : Bool := match h with | (n, cs) => zx_F (Nat.succ n) (fun n1 => cond (Nat.beq (n % 32) 0) (cond (Nat.beq (zx_Z cs) (n / 32)) (zx_P cs [E] (fun cs2 => kk n (n1, cs2))) false)
  (cond (Nat.beq (zx_Z (zx_N [] cs (n / 32))) (n % 32) && Nat.blt (n / 32) (zx_Z cs)) (zx_P (zx_N [] cs (n / 32)) E (fun ch => zx_S cs (n / 32) ch (fun cs2 => kk n (n1, cs2)))) false))
/-- what is known of a named number: its least and its greatest, moved by 2 ^ 31 -/
noncomputable def zx_V {β : Type} (st : zxST) (id : Nat) (kk : Nat → Nat → β) : β := List.rec (motive := fun _ => β) (kk 0 4294967295) (fun q _ ih => match q with | (a, lo, hi) => cond (Nat.beq a id) (kk lo hi) ih) st
def zx_u (p : Nat) : Nat := (p + 2147483648) % 4294967296
noncomputable def zx_M {β : Type} (c : Nat) (st : zxST) (kk : Nat → β) : β := cond (Nat.beq (c % 8) 4) (zx_V st (c / 8) (fun lo hi => cond (Nat.beq lo hi && Nat.blt (c / 8) 300) (zx_F (8 * zx_u lo) kk) (kk c))) (kk c)
noncomputable def zx_R (n : Nat) (f : Nat → Bool) : Bool := Nat.rec (motive := fun _ => Bool) true (fun j ih => and (f j) ih) n
noncomputable def zx_C (c : Nat) (st : zxST) (kk : Nat → zxST → Bool) : Bool := cond (Nat.beq (c % 8) 4) (zx_F (c / 8) (fun id => zx_V st id (fun lo hi => cond (Nat.ble (hi - lo) 64 && (Nat.ble lo hi && Nat.blt id 300)) (zx_R (Nat.succ (hi - lo)) (fun j => zx_F (lo + j) (fun v => zx_F (8 * zx_u v) (fun cv => kk cv ((id, v, v) :: st))))) (kk c st)))) (kk c st)
noncomputable def zx_X (st : zxST) (id b : Nat) (kk : Nat → zxST → Bool) : Bool := zx_V st id (fun lo hi => and (cond (Nat.blt lo b) (zx_F (cond (Nat.blt hi b) hi (b - 1)) (fun h1 => kk 0 ((id, lo, h1) :: st))) true) (and (cond (Nat.ble lo b && Nat.ble b hi) (kk 1 ((id, b, b) :: st)) true) (cond (Nat.blt b hi) (zx_F (cond (Nat.blt b lo) lo (Nat.succ b)) (fun l1 => kk 2 ((id, l1, hi) :: st))) true)))
def zx_ord (p q : Nat) : Nat := cond (Nat.blt p q) 0 (cond (Nat.beq p q) 1 2)
/-- two named numbers, which is the greater: a name of its own for that -/
noncomputable def zx_Y (st : zxST) (i j : Nat) (kk : Nat → zxST → Bool) : Bool := cond (Nat.beq i j) (kk 1 st) (cond (Nat.blt i 16 && Nat.blt j 16) (zx_F (300 + 16 * i + j) (fun id => zx_V st id (fun lo hi => and (cond (Nat.ble lo 0) (kk 0 ((id, 0, 0) :: st)) true) (and (cond (Nat.ble lo 1 && Nat.ble 1 hi) (kk 1 ((id, 1, 1) :: st)) true) (cond (Nat.ble 2 hi) (kk 2 ((id, 2, 2) :: st)) true))))) false)
noncomputable def zx_K (x y : Nat) (st : zxST) (kk : Nat → zxST → Bool) : Bool := zx_M x st (fun x => zx_M y st (fun y =>
  cond (Nat.beq (x % 8) 0) (cond (Nat.beq (y % 8) 0) (kk (zx_ord (zx_u (x / 8)) (zx_u (y / 8))) st) (cond (Nat.beq (y % 8) 4 && Nat.blt (y / 8) 300) (zx_F (y / 8) (fun id => zx_F (zx_u (x / 8)) (fun b => zx_X st id b (fun o s => kk (2 - o) s)))) false))
    (cond (Nat.beq (x % 8) 4 && Nat.blt (x / 8) 300) (cond (Nat.beq (y % 8) 0) (zx_F (x / 8) (fun id => zx_F (zx_u (y / 8)) (fun b => zx_X st id b kk))) (cond (Nat.beq (y % 8) 4) (zx_F (x / 8) (fun i => zx_F (y / 8) (fun j => zx_Y st i j kk))) false)) false)))
def zx_T (b o : Nat) : Bool := Nat.beq (b / cond (Nat.beq o 0) 1 (cond (Nat.beq o 1) 2 4) % 2) 1
-- one instruction each
def zh_push : zxHD := fun a _ nxt _ lv stk hp st u w k => k nxt lv (a :: stk) hp st u w
noncomputable def zh_iload : zxHD := fun a _ nxt _ lv stk hp st u w k => zx_F (zx_A lv 74 a) (fun c => cond (zx_i c) (k nxt lv (c :: stk) hp st u w) false)
noncomputable def zh_lload : zxHD := fun a _ nxt _ lv stk hp st u w k => zx_F (zx_A lv 74 a) (fun c => cond (zx_2 c) (k nxt lv (c :: stk) hp st u w) false)
noncomputable def zh_aload : zxHD := fun a _ nxt _ lv stk hp st u w k => zx_F (zx_A lv 74 a) (fun c => cond (zx_r c) (k nxt lv (c :: stk) hp st u w) false)
noncomputable def zh_istore : zxHD := fun a b nxt _ lv stk hp st u w k => match stk with | c :: r => cond (zx_i c && Nat.blt a b) (zx_L false a lv (fun l => k nxt ((a, c) :: l) r hp st u w)) false | _ => false
noncomputable def zh_lstore : zxHD := fun a b nxt _ lv stk hp st u w k => match stk with | c :: r => cond (zx_2 c && Nat.blt (Nat.succ a) b) (zx_L true a lv (fun l => k nxt ((a, c) :: l) r hp st u w)) false | _ => false
noncomputable def zh_astore : zxHD := fun a b nxt _ lv stk hp st u w k => match stk with | c :: r => cond (zx_r c && Nat.blt a b) (zx_L false a lv (fun l => k nxt ((a, c) :: l) r hp st u w)) false | _ => false
/-- iinc: a the place, b the number of locals, d = [the number that is added, as an int's payload] -/
noncomputable def zh_iinc : zxHD := fun a b nxt d lv stk hp st u w k => match d with | [n] => zx_F (zx_A lv 74 a) (fun c => cond (zx_i c && Nat.blt a b) (zx_F (cond (Nat.beq (c % 8) 0) (8 * ((c / 8 + n) % 4294967296)) 6) (fun v => zx_L false a lv (fun l => k nxt ((a, v) :: l) stk hp st u w))) false) | _ => false
noncomputable def zh_iadd : zxHD := fun _ _ nxt _ lv stk hp st u w k => match stk with | y :: x :: r => zx_C y st (fun y s1 => zx_C x s1 (fun x s2 => cond (zx_i x && zx_i y) (zx_F (cond (Nat.beq x 0) y (cond (Nat.beq y 0) x (cond (Nat.beq (x % 8) 0 && Nat.beq (y % 8) 0) (8 * ((x / 8 + y / 8) % 4294967296)) 6))) (fun v => k nxt lv (v :: r) hp s2 u w)) false)) | _ => false
noncomputable def zh_isub : zxHD := fun _ _ nxt _ lv stk hp st u w k => match stk with | y :: x :: r => zx_C y st (fun y s1 => zx_C x s1 (fun x s2 => cond (zx_i x && zx_i y) (zx_F (cond (Nat.beq (x % 8) 0 && Nat.beq (y % 8) 0) (8 * ((x / 8 + (4294967296 - y / 8 % 4294967296)) % 4294967296)) 6) (fun v => k nxt lv (v :: r) hp s2 u w)) false)) | _ => false
noncomputable def zh_imul : zxHD := fun _ _ nxt _ lv stk hp st u w k => match stk with | y :: x :: r => zx_C y st (fun y s1 => zx_C x s1 (fun x s2 => cond (zx_i x && zx_i y) (zx_F (cond (Nat.beq (x % 8) 0 && Nat.beq (y % 8) 0) (8 * ((x / 8 * (y / 8)) % 4294967296)) 6) (fun v => k nxt lv (v :: r) hp s2 u w)) false)) | _ => false
/-- iand with 31 alone: each of the 32 answers -/
noncomputable def zh_iand : zxHD := fun _ _ nxt _ lv stk hp st u w k => match stk with | y :: x :: r => cond (Nat.beq y 248 && zx_i x) (zx_R 32 (fun j => zx_F (8 * j) (fun v => k nxt lv (v :: r) hp st u w))) false | _ => false
noncomputable def zh_i2b : zxHD := fun _ _ nxt _ lv stk hp st u w k => match stk with | c :: r => cond (zx_i c) (zx_M c st (fun c => zx_F (cond (Nat.beq (c % 8) 0) (8 * cond (Nat.blt (c / 8 % 256) 128) (c / 8 % 256) (c / 8 % 256 + 4294967040)) 6) (fun v => k nxt lv (v :: r) hp st u w))) false | _ => false
noncomputable def zh_i2l : zxHD := fun _ _ nxt _ lv stk hp st u w k => match stk with | c :: r => cond (zx_i c) (zx_M c st (fun c => zx_F (cond (Nat.beq (c % 8) 0) (8 * cond (Nat.blt (c / 8 % 4294967296) 2147483648) (c / 8 % 4294967296) (c / 8 % 4294967296 + 18446744069414584320) + 1) (cond (Nat.beq (c % 8) 4) (Nat.succ c) 7)) (fun v => k nxt lv (v :: r) hp st u w))) false | _ => false
noncomputable def zh_l2i : zxHD := fun _ _ nxt _ lv stk hp st u w k => match stk with | c :: r => cond (zx_2 c) (zx_F (cond (Nat.beq (c % 8) 1) (8 * (c / 8 % 4294967296)) 6) (fun v => k nxt lv (v :: r) hp st u w)) false | _ => false
noncomputable def zh_lshl : zxHD := fun _ _ nxt _ lv stk hp st u w k => match stk with | y :: x :: r => cond (zx_2 x && zx_i y) (zx_F (cond (Nat.beq (x % 8) 5 && (Nat.beq y 256 && Nat.blt (x / 8) 100)) (8 * (100 + x / 8) + 7) 7) (fun v => k nxt lv (v :: r) hp st u w)) false | _ => false
noncomputable def zh_lushr : zxHD := fun _ _ nxt _ lv stk hp st u w k => match stk with | y :: x :: r => cond (zx_2 x && zx_i y) (k nxt lv (7 :: r) hp st u w) false | _ => false
noncomputable def zh_land : zxHD := fun _ _ nxt _ lv stk hp st u w k => match stk with | y :: x :: r => cond (zx_2 x && zx_2 y) (zx_F (cond (Nat.beq (x % 8) 5 && (Nat.beq y 34359738361 && Nat.blt (x / 8) 100)) (8 * (200 + x / 8) + 7) 7) (fun v => k nxt lv (v :: r) hp st u w)) false | _ => false
noncomputable def zh_lor : zxHD := fun _ _ nxt _ lv stk hp st u w k => match stk with | y :: x :: r => cond (zx_2 x && zx_2 y) (zx_F (cond (Nat.beq (x % 8) 7 && (Nat.beq (y % 8) 7 && (Nat.ble 100 (x / 8) && (Nat.blt (x / 8) 108 && (Nat.ble 200 (y / 8) && Nat.blt (y / 8) 208))))) (8 * (1000 + 8 * (x / 8 - 100) + (y / 8 - 200)) + 7) 7) (fun v => k nxt lv (v :: r) hp st u w)) false | _ => false
def zx_w (p : Nat) : Nat := (p + 9223372036854775808) % 18446744073709551616
def zx_sm (p : Nat) : Bool := Nat.blt p 2147483648 || (Nat.ble 18446744071562067968 p && Nat.blt p 18446744073709551616)
def zx_lb (p : Nat) : Nat := (p + 2147483648) % 18446744073709551616
noncomputable def zh_lcmp : zxHD := fun _ _ nxt _ lv stk hp st u w k => match stk with
  | y :: x :: r => cond (Nat.beq (x % 8) 1) (cond (Nat.beq (y % 8) 1) (zx_F (8 * cond (Nat.blt (zx_w (x / 8)) (zx_w (y / 8))) 4294967295 (cond (Nat.beq (zx_w (x / 8)) (zx_w (y / 8))) 0 1)) (fun v => k nxt lv (v :: r) hp st u w)) (cond (Nat.beq (y % 8) 5 && (Nat.blt (y / 8) 300 && Nat.blt (x / 8) 2147483648)) (zx_F (y / 8) (fun id => zx_F (x / 8 + 2147483648) (fun b => zx_X st id b (fun o s => zx_F (8 * cond (Nat.beq (2 - o) 0) 4294967295 (2 - o - 1)) (fun v => k nxt lv (v :: r) hp s u w))))) false))
      (cond (Nat.beq (x % 8) 5 && Nat.blt (x / 8) 300) (cond (Nat.beq (y % 8) 1 && zx_sm (y / 8)) (zx_F (x / 8) (fun id => zx_F (zx_lb (y / 8)) (fun b => zx_X st id b (fun o s => zx_F (8 * cond (Nat.beq o 0) 4294967295 (o - 1)) (fun v => k nxt lv (v :: r) hp s u w)))))
        (cond (Nat.beq (y % 8) 5) (zx_F (x / 8) (fun i => zx_F (y / 8) (fun j => zx_Y st i j (fun o s => zx_F (8 * cond (Nat.beq o 0) 4294967295 (o - 1)) (fun v => k nxt lv (v :: r) hp s u w))))) false)) false)
  | _ => false
noncomputable def zh_icmp : zxHD := fun a b nxt _ lv stk hp st u w k => match stk with | y :: x :: r => cond (zx_i x && zx_i y) (zx_K x y st (fun o s => cond (zx_T b o) (k a lv r hp s u w) (k nxt lv r hp s u w))) false | _ => false
noncomputable def zh_if : zxHD := fun a b nxt _ lv stk hp st u w k => match stk with | x :: r => cond (zx_i x) (zx_K x 0 st (fun o s => cond (zx_T b o) (k a lv r hp s u w) (k nxt lv r hp s u w))) false | _ => false
def zh_goto : zxHD := fun a _ _ _ lv stk hp st u w k => k a lv stk hp st u w
noncomputable def zx_W (d : List Nat) (dflt id : Nat) (kk : Nat → zxST → Bool) : Nat → zxST → Bool := List.rec (motive := fun _ => Nat → zxST → Bool) (fun _ s => kk dflt s) (fun t _ ih b s => zx_X s id b (fun o s2 => cond (Nat.beq o 0) (kk dflt s2) (cond (Nat.beq o 1) (kk t s2) (zx_F (Nat.succ b) (fun b2 => ih b2 s2))))) d
/-- tableswitch: a the default's place, b its least number moved by 2 ^ 31, d the places -/
noncomputable def zh_switch : zxHD := fun a b _ d lv stk hp st u w k => match stk with
  | c :: r => zx_M c st (fun c => cond (Nat.beq (c % 8) 0) (zx_F (cond (Nat.blt (zx_u (c / 8)) b) a (zx_N a d (zx_u (c / 8) - b))) (fun t => k t lv r hp st u w)) (cond (Nat.beq (c % 8) 4 && Nat.blt (c / 8) 300) (zx_F (c / 8) (fun id => zx_W d a id (fun t s => k t lv r hp s u w) b st)) false))
  | _ => false
noncomputable def zh_dup : zxHD := fun _ _ nxt _ lv stk hp st u w k => match stk with | c :: r => cond (zx_2 c) false (k nxt lv (c :: c :: r) hp st u w) | _ => false
noncomputable def zh_pop : zxHD := fun _ _ nxt _ lv stk hp st u w k => match stk with | c :: r => cond (zx_2 c) false (k nxt lv r hp st u w) | _ => false
noncomputable def zh_dupx1 : zxHD := fun _ _ nxt _ lv stk hp st u w k => match stk with | c :: e :: r => cond (zx_2 c || zx_2 e) false (k nxt lv (c :: e :: c :: r) hp st u w) | _ => false
noncomputable def zh_alen : zxHD := fun _ _ nxt _ lv stk hp st u w k => match stk with | c :: r => cond (Nat.beq (c % 8) 3) (match zx_G hp (c / 8) with | (t, n, _, _) => cond (Nat.blt 0 t && Nat.blt t 16) (zx_F (8 * n) (fun v => k nxt lv (v :: r) hp st u w)) false) false | _ => false
noncomputable def zx_mem (t : Nat) (d : List Nat) : Bool := List.rec (motive := fun _ => Bool) false (fun x _ ih => cond (Nat.beq x t) true ih) d
/-- getfield: a the pool's number, b the slot, d the sorts of objects that are meant -/
noncomputable def zh_get : zxHD := fun _ b nxt d lv stk hp st u w k => match stk with | c :: r => cond (Nat.beq (c % 8) 3) (match zx_G hp (c / 8) with | (t, _, fs, _) => cond (zx_mem t d) (zx_F (zx_N 74 fs b) (fun v => cond (Nat.beq v 74) false (k nxt lv (v :: r) hp st u w))) false) false | _ => false
/-- what may be put into a field: 0 an int, 1 a boolean, 2 a long, 3 a reference -/
def zx_fit (ty v : Nat) : Bool := cond (Nat.beq ty 0) (zx_i v) (cond (Nat.beq ty 1) (Nat.beq v 0 || Nat.beq v 8) (cond (Nat.beq ty 2) (zx_2 v) (Nat.beq (v % 8) 3)))
/-- putfield: a the pool's number, b the slot and 64 times the field's sort, d the sorts of objects -/
noncomputable def zh_put : zxHD := fun _ b nxt d lv stk hp st u w k => match stk with
  | v :: c :: r => cond (Nat.beq (c % 8) 3) (zx_F (c / 8) (fun q => match zx_G hp q with | (t, n, fs, es) => cond (zx_mem t d) (zx_M v st (fun v => cond (zx_fit (b / 64 % 4) v && Nat.blt (b % 64) (zx_Z fs)) (zx_S fs (b % 64) v (fun fs2 => zx_H hp q (t, n, fs2, es) (fun hp2 => k nxt lv r hp2 st u w))) false)) false)) false
  | _ => false
/-- a load from an array of the sort a -/
noncomputable def zh_ald : zxHD := fun a _ nxt _ lv stk hp st u w k => match stk with
  | i :: c :: r => zx_C i st (fun i s => cond (Nat.beq (i % 8) 0 && Nat.beq (c % 8) 3) (match zx_G hp (c / 8) with | (t, n, fs, es) => cond (Nat.beq t a && Nat.blt (i / 8) n) (zx_F (zx_A es (zx_N 74 fs 0) (i / 8)) (fun v => k nxt lv (v :: r) hp s u w)) false) false)
  | _ => false
/-- what a store makes of a number in an array of the sort a -/
def zx_nar (a v : Nat) : Nat := cond (Nat.beq a 2) (cond (Nat.beq (v % 8) 0) (8 * cond (Nat.blt (v / 8 % 256) 128) (v / 8 % 256) (v / 8 % 256 + 4294967040)) 6) (cond (Nat.beq a 3) (cond (Nat.beq (v % 8) 0) (8 * (v / 8 % 2)) 6) v)
def zx_el (a v : Nat) : Bool := cond (Nat.blt a 4) (zx_i v) (zx_2 v)
/-- a store into an array of the sort a (ints, longs) -/
noncomputable def zh_ast : zxHD := fun a _ nxt _ lv stk hp st u w k => match stk with
  | v :: i :: c :: r => zx_C i st (fun i s => cond (Nat.beq (i % 8) 0 && (Nat.beq (c % 8) 3 && zx_el a v)) (zx_F (c / 8) (fun q => match zx_G hp q with | (t, n, fs, es) => cond (Nat.beq t a && Nat.blt (i / 8) n) (zx_F (i / 8) (fun j => zx_F (zx_nar a v) (fun v => cond (Nat.beq (zx_A es (zx_N 74 fs 0) j) v) (k nxt lv r hp s u w) (zx_H hp q (t, n, fs, (j, v) :: es) (fun hp2 => k nxt lv r hp2 s u w))))) false)) false)
  | _ => false
/-- a store into an array of references of the sort a: b the sort of the object -/
noncomputable def zh_astq : zxHD := fun a b nxt _ lv stk hp st u w k => match stk with
  | v :: i :: c :: r => zx_C i st (fun i s => cond (Nat.beq (i % 8) 0 && (Nat.beq (c % 8) 3 && Nat.beq (v % 8) 3)) (match zx_G hp (v / 8) with | (tv, _, _, _) => cond (Nat.beq tv b) (zx_F (c / 8) (fun q => match zx_G hp q with | (t, n, fs, es) => cond (Nat.beq t a && Nat.blt (i / 8) n) (zx_F (i / 8) (fun j => zx_H hp q (t, n, fs, (j, v) :: es) (fun hp2 => k nxt lv r hp2 s u w))) false)) false) false)
  | _ => false
/-- new: b the class's number, d the fields as they begin -/
noncomputable def zh_new : zxHD := fun _ b nxt d lv stk hp st u w k => zx_F (16 + b) (fun t => zx_B hp (t, 0, d, []) (fun q hp2 => zx_F (8 * q + 3) (fun v => zx_F (Nat.succ u) (fun u2 => zx_F (w + zx_Z d) (fun w2 => k nxt lv (v :: stk) hp2 st u2 w2)))))
/-- newarray, anewarray: b the sort, d = [what it begins with] -/
noncomputable def zh_newa : zxHD := fun _ b nxt d lv stk hp st u w k => match stk with
  | c :: r => cond (Nat.beq (c % 8) 0 && Nat.blt (c / 8) 1000000) (zx_F (c / 8) (fun n => zx_B hp (b, n, d, []) (fun q hp2 => zx_F (8 * q + 3) (fun v => zx_F (Nat.succ u) (fun u2 => zx_F (w + n) (fun w2 => k nxt lv (v :: r) hp2 st u2 w2)))))) false
  | _ => false
/-- arraycopy of a whole int array into another of its length -/
noncomputable def zh_copy : zxHD := fun _ _ nxt _ lv stk hp st u w k => match stk with
  | n :: dp :: c :: sp :: e :: r => cond (Nat.beq dp 0 && (Nat.beq sp 0 && (Nat.beq (n % 8) 0 && (Nat.beq (c % 8) 3 && (Nat.beq (e % 8) 3 && Nat.ble (zx_Z r) 0))))) (zx_F (c / 8) (fun q => match zx_G hp q with | (t, m, _, _) => match zx_G hp (e / 8) with | (t2, m2, fs2, es2) => cond (Nat.beq t 1 && (Nat.beq t2 1 && (Nat.beq m (n / 8) && Nat.beq m2 (n / 8)))) (zx_H hp q (t, m, fs2, es2) (fun hp2 => k nxt lv r hp2 st u w)) false)) false
  | _ => false
