/-! THE SMALL MACHINE: what the class's bytecode does to a row of cells that are named by numbers; its steps are read off 'decode'. -/
/-- cells made, their slots, kind and length of a cell, what a cell holds -/
abbrev MS : Type := Nat × Nat × (Nat → Nat × Nat) × (Nat → Nat → Value)
/-- program counter, locals, stack, cells -/
abbrev Cf : Type := Nat × List Value × List Value × MS
abbrev Rs : Type := Prop × (Cf ⊕ (Option Value × MS))
/-- what a method does: what it asks, what it answers, the cells then -/
abbrev Sp : Type := List Value → MS → Prop × Option Value × MS
/-- the room, the script -/
abbrev En : Type := (Nat × Nat) × (Nat × (Nat → Int32))
def svNil : MS := (0, 0, fun _ => (0, 0), fun _ _ => .null)
def svSet (S : MS) (a k : Nat) (v : Value) : MS := (S.1, S.2.1, S.2.2.1, fun a' k' => if a' = a ∧ k' = k then v else S.2.2.2 a' k')
def svNew (S : MS) (kd len sz : Nat) (f : Nat → Value) : MS := (S.1 + 1, S.2.1 + sz, fun a => if a = S.1 then (kd, len) else S.2.2.1 a, fun a k => if a = S.1 then f k else S.2.2.2 a k)
def svCpy (S : MS) (a sp b dp n : Nat) : MS := (S.1, S.2.1, S.2.2.1, fun c k => if c = b ∧ dp ≤ k ∧ k < dp + n then S.2.2.2 a (sp + (k - dp)) else S.2.2.2 c k)
def bad : Rs := (False, .inr (none, svNil))
def nx (p : Prop) (pc : Nat) (ls st : List Value) (S : MS) : Rs := (p, .inl (pc, ls, st, S))
def lget (ls : List Value) (k : Nat) : Value := ls.getD k .null
def lset (ls : List Value) (k : Nat) (v : Value) : List Value := ls.set k v
/-- a place that may be written: the one before it holds no double -/
def stok (ls : List Value) (k : Nat) : Prop := k < ls.length ∧ ∀ j, j + 1 = k → (lget ls j).category = 1
/-- no double -/
def ct1 (v : Value) : Prop := v.category = 1
def toI (v : Value) : Int32 := match v with
  | .int x => x
  | _ => 0
def toR (v : Value) : Option Nat := match v with
  | .ref x => some x
  | _ => none
def tg (pc : Nat) (off : Int) : Nat := ((pc : Int) + off).toNat
def tgo (pc : Nat) (off : Int) : Prop := (0 : Int) ≤ (pc : Int) + off
def vmdef : MethodName × ByteArray × Nat × Option FieldType × Nat × Nat × Nat × Bool := (⟨"", "", ""⟩, .mk #[], 0, none, 0, 0, 0, false)
def mtN (y : Nat) : MethodName := (mtab.getD y vmdef).1
def mtC (y : Nat) : ByteArray := (mtab.getD y vmdef).2.1
def mtL (y : Nat) : Nat := (mtab.getD y vmdef).2.2.1
def mtR (y : Nat) : Option FieldType := (mtab.getD y vmdef).2.2.2.1
def mtO (y : Nat) : Nat := (mtab.getD y vmdef).2.2.2.2.1
def mtD (y : Nat) : Nat := (mtab.getD y vmdef).2.2.2.2.2.1
def mtA (y : Nat) : Nat := (mtab.getD y vmdef).2.2.2.2.2.2.1
def mtS (y : Nat) : Bool := (mtab.getD y vmdef).2.2.2.2.2.2.2
/-- an entry's field: its class and place -/
def FL (o i : Nat) : Option (Nat × Nat) := (fltab.find? fun q => q.1 == o && q.2.1 == i).map fun q => (q.2.2.1, q.2.2.2.1)
def SL (o i : Nat) : Option Nat := (sltab.find? fun q => q.1 == o && q.2.1 == i).map fun q => q.2.2.1
def ML (o i : Nat) : Option Nat := (mltab.find? fun q => q.1 == o && q.2.1 == i).map fun q => q.2.2.1
def CL (o i : Nat) : Option Int32 := (cltab.find? fun q => q.1 == o && q.2.1 == i).map fun q => q.2.2.1
def NL (o i : Nat) : Option Nat := (nltab.find? fun q => q.1 == o && q.2.1 == i).map fun q => q.2.2.1
/-- a class's fields -/
def nf (c : Nat) : Nat := (vwCl.getD c ("", TX0, 0)).2.2
def fT (c : Nat) : u_T := (vwCl.getD c ("", TX0, 0)).2.1
def fty (c : Nat) : Nat → FieldType := match c with
  | 0 => tyX0
  | 1 => tyX1
  | 2 => tyX2
  | 3 => tyX3
  | _ => tyX4
/-- the three rows of settings -/
def stv (t : Nat) : List Int32 := match t with
  | 0 => [1, 20, 0, 0, 0]
  | 1 => [13, 999, 99, 99, 50]
  | _ => [8, 120, 15, 3, 5]
/-- an array that can be read: its length -/
def aln (e : En) (S : MS) (a : Nat) : Nat := if a < 1000 then (S.2.2.1 a).2 else if a < 2000 then 5 else e.2.1
/-- its contents -/
def ard (e : En) (S : MS) (a j : Nat) : Int32 := if a < 1000 then toI (S.2.2.2 a j) else if a < 2000 then (stv (a - 1000)).getD j 0 else e.2.2 j
/-- it is an array of kind kd -/
def aok (S : MS) (a kd : Nat) : Prop := if a < 1000 then a < S.1 ∧ (S.2.2.1 a).1 = kd else (if a < 2000 then a < 1003 else a = 2000) ∧ kd = 7
def iin (i : Int32) (n : Nat) : Prop := ¬ (i < 0 ∨ n ≤ i.toNatClampNeg)
/-- a cell that is an object of class c -/
def obj (S : MS) (a c : Nat) : Prop := a < 1000 ∧ a < S.1 ∧ (S.2.2.1 a).1 = c ∧ c < 5
def ari (S : MS) (a kd : Nat) : Prop := a < 1000 ∧ a < S.1 ∧ (S.2.2.1 a).1 = kd
/-- the room that lies below a call's arguments -/
def sd8 (l : List Value) : Prop := (l.map Value.category).sum ≤ 8
/-- what a field of a type may hold -/
def fok (ty : FieldType) (v : Value) : Prop := narrow ty v = v ∧ fits ty v = true
def i_bin (f : Int32 → Int32 → Value) (p : Int32 → Int32 → Prop) (q : Prop) (pc : Nat) (ls st : List Value) (S : MS) : Rs := match st with
  | .int b :: .int a :: r => nx (q ∧ p a b) pc ls (f a b :: r) S
  | _ => bad
def i_un (f : Int32 → Value) (q : Prop) (pc : Nat) (ls st : List Value) (S : MS) : Rs := match st with
  | .int a :: r => nx q pc ls (f a :: r) S
  | _ => bad
def i_ild (q : Prop) (pc k : Nat) (ls st : List Value) (S : MS) : Rs := match lget ls k with
  | .int x => nx q pc ls (.int x :: st) S
  | _ => bad
def i_ald (q : Prop) (pc k : Nat) (ls st : List Value) (S : MS) : Rs := match lget ls k with
  | .ref x => nx q pc ls (.ref x :: st) S
  | _ => bad
def i_dld (q : Prop) (pc k : Nat) (ls st : List Value) (S : MS) : Rs := match lget ls k with
  | .double x => nx q pc ls (.double x :: st) S
  | _ => bad
def i_ist (q : Prop) (pc k : Nat) (ls st : List Value) (S : MS) : Rs := match st with
  | .int x :: r => nx (q ∧ stok ls k) pc (lset ls k (.int x)) r S
  | _ => bad
def i_ast (q : Prop) (pc k : Nat) (ls st : List Value) (S : MS) : Rs := match st with
  | .ref x :: r => nx (q ∧ stok ls k) pc (lset ls k (.ref x)) r S
  | _ => bad
def i_dst (q : Prop) (pc k : Nat) (ls st : List Value) (S : MS) : Rs := match st with
  | .double x :: r => nx (q ∧ stok ls k ∧ k + 1 < ls.length) pc (lset (lset ls k (.double x)) (k + 1) .null) r S
  | _ => bad
def i_inc (q : Prop) (pc k : Nat) (n : Int) (ls st : List Value) (S : MS) : Rs := match lget ls k with
  | .int x => nx (q ∧ stok ls k) pc (lset ls k (.int (x + Int32.ofInt n))) st S
  | _ => bad
def cnd (c : Jvm.ClassFile.Cond) (a b : Int32) : Bool := match c with
  | .eq => decide (a = b)
  | .ne => decide (¬ a = b)
  | .lt => decide (a < b)
  | .ge => decide (b ≤ a)
  | .gt => decide (b < a)
  | .le => decide (a ≤ b)
def i_if1 (c : Jvm.ClassFile.Cond) (off : Int) (q : Prop) (pc : Nat) (ls st : List Value) (S : MS) : Rs := match st with
  | .int a :: r => nx (q ∧ tgo pc off) (if cnd c a 0 = true then tg pc off else pc + 3) ls r S
  | _ => bad
def i_if2 (c : Jvm.ClassFile.Cond) (off : Int) (q : Prop) (pc : Nat) (ls st : List Value) (S : MS) : Rs := match st with
  | .int b :: .int a :: r => nx (q ∧ tgo pc off) (if cnd c a b = true then tg pc off else pc + 3) ls r S
  | _ => bad
def i_nul (off : Int) (q : Prop) (pc : Nat) (ls st : List Value) (S : MS) : Rs := match st with
  | .ref _ :: r => nx q (pc + 3) ls r S
  | .null :: r => nx (q ∧ tgo pc off) (tg pc off) ls r S
  | _ => bad
def i_nnl (off : Int) (q : Prop) (pc : Nat) (ls st : List Value) (S : MS) : Rs := match st with
  | .null :: r => nx q (pc + 3) ls r S
  | .ref _ :: r => nx (q ∧ tgo pc off) (tg pc off) ls r S
  | _ => bad
def tsw (pc : Nat) (x : Int32) (dflt lo hi : Int) (offs : Array Int) : Int := if x.toInt < lo ∨ hi < x.toInt then dflt else offs.getD (x.toInt - lo).toNat 0
def i_tsw (dflt lo hi : Int) (offs : Array Int) (pc : Nat) (ls st : List Value) (S : MS) : Rs := match st with
  | .int x :: r => nx (tgo pc (tsw pc x dflt lo hi offs) ∧ (¬ (x.toInt < lo ∨ hi < x.toInt) → (x.toInt - lo).toNat < offs.size)) (tg pc (tsw pc x dflt lo hi offs)) ls r S
  | _ => bad
def i_lsw (dflt : Int) (ps : Array (Int × Int)) (pc : Nat) (ls st : List Value) (S : MS) : Rs := match st with
  | .int x :: r => nx (tgo pc (Op.lookupswitch.offset ps.toList dflt x.toInt) ∧ (ps.toList.zip (ps.toList.drop 1)).all (fun (a, next) => a.1 < next.1) = true) (tg pc (Op.lookupswitch.offset ps.toList dflt x.toInt)) ls r S
  | _ => bad
def i_get (y ix : Nat) (q : Prop) (pc : Nat) (ls st : List Value) (S : MS) : Rs := match FL (mtO y) ix, st with
  | some (c, k), .ref a :: r => nx (q ∧ obj S a c ∧ k < nf c) pc ls (S.2.2.2 a k :: r) S
  | _, _ => bad
def i_put (y ix : Nat) (q : Prop) (pc : Nat) (ls st : List Value) (S : MS) : Rs := match FL (mtO y) ix, st with
  | some (c, k), v :: .ref a :: r => nx (q ∧ obj S a c ∧ k < nf c ∧ ((fT c k).2.2.2 = true → mtO y = c ∧ (mtN y).name = "<init>") ∧ fok (fty c k) v) pc ls r (svSet S a k v)
  | _, _ => bad
def i_gst (y ix : Nat) (q : Prop) (pc : Nat) (ls st : List Value) (S : MS) : Rs := match SL (mtO y) ix with
  | some t => nx (q ∧ t < 3) pc ls (.ref (1000 + t) :: st) S
  | _ => bad
def i_len (e : En) (q : Prop) (pc : Nat) (ls st : List Value) (S : MS) : Rs := match st with
  | .ref a :: r => nx (q ∧ (aok S a 7 ∨ aok S a 6 ∨ aok S a 8)) pc ls (.int (Int32.ofNat (aln e S a)) :: r) S
  | _ => bad
def i_ard (e : En) (kd : Nat) (q : Prop) (pc : Nat) (ls st : List Value) (S : MS) : Rs := match st with
  | .int i :: .ref a :: r => nx (q ∧ aok S a kd ∧ iin i (aln e S a)) pc ls (.int (ard e S a i.toNatClampNeg) :: r) S
  | _ => bad
def i_aqd (q : Prop) (pc : Nat) (ls st : List Value) (S : MS) : Rs := match st with
  | .int i :: .ref a :: r => nx (q ∧ ari S a 8 ∧ iin i (S.2.2.1 a).2 ∧ (∀ x, toR (S.2.2.2 a i.toNatClampNeg) = some x → x < 1000)) pc ls ((match toR (S.2.2.2 a i.toNatClampNeg) with
    | some x => .ref x
    | none => .null) :: r) S
  | _ => bad
def i_ast7 (q : Prop) (pc : Nat) (ls st : List Value) (S : MS) : Rs := match st with
  | .int x :: .int i :: .ref a :: r => nx (q ∧ ari S a 7 ∧ iin i (S.2.2.1 a).2) pc ls r (svSet S a i.toNatClampNeg (.int x))
  | _ => bad
def i_ast6 (q : Prop) (pc : Nat) (ls st : List Value) (S : MS) : Rs := match st with
  | .int x :: .int i :: .ref a :: r => nx (q ∧ ari S a 6 ∧ iin i (S.2.2.1 a).2) pc ls r (svSet S a i.toNatClampNeg (.int (vp_nar .char x)))
  | _ => bad
def i_ast8 (q : Prop) (pc : Nat) (ls st : List Value) (S : MS) : Rs := match st with
  | .ref x :: .int i :: .ref a :: r => nx (q ∧ ari S a 8 ∧ iin i (S.2.2.1 a).2 ∧ obj S x 0) pc ls r (svSet S a i.toNatClampNeg (.ref x))
  | _ => bad
def i_new (y ix : Nat) (e : En) (q : Prop) (pc : Nat) (ls st : List Value) (S : MS) : Rs := match NL (mtO y) ix with
  | some c => nx (q ∧ S.1 < 1000 ∧ c < 5 ∧ S.1 + 1 ≤ e.1.1 ∧ S.2.1 + nf c ≤ e.1.2) pc ls (.ref S.1 :: st) (svNew S c 0 (nf c) (fun k => defaultValue (fty c k)))
  | _ => bad
def i_nar (at' : ArrayType) (e : En) (q : Prop) (pc : Nat) (ls st : List Value) (S : MS) : Rs := match st with
  | .int n :: r => nx (q ∧ S.1 < 1000 ∧ (at' = .int ∨ at' = .char) ∧ ¬ n < 0 ∧ n.toNatClampNeg ≤ 100000 ∧ S.1 + 1 ≤ e.1.1 ∧ S.2.1 + n.toNatClampNeg ≤ e.1.2) pc ls (.ref S.1 :: r) (svNew S (if at' = .char then 6 else 7) n.toNatClampNeg n.toNatClampNeg (fun _ => .int 0))
  | _ => bad
def i_naq (y ix : Nat) (e : En) (q : Prop) (pc : Nat) (ls st : List Value) (S : MS) : Rs := match st with
  | .int n :: r => nx (q ∧ NL (mtO y) ix = some 0 ∧ S.1 < 1000 ∧ ¬ n < 0 ∧ n.toNatClampNeg ≤ 100000 ∧ S.1 + 1 ≤ e.1.1 ∧ S.2.1 + n.toNatClampNeg ≤ e.1.2) pc ls (.ref S.1 :: r) (svNew S 8 n.toNatClampNeg n.toNatClampNeg (fun _ => .null))
  | _ => bad
/-- the copy of a row of ints -/
def i_cpy (q : Prop) (pc : Nat) (ls st : List Value) (S : MS) : Rs := match st with
  | .int n :: .int dp :: .ref b :: .int sp :: .ref a :: r => nx (q ∧ r = [] ∧ ari S a 7 ∧ ari S b 7 ∧ ¬ sp < 0 ∧ ¬ dp < 0 ∧ ¬ n < 0 ∧ sp.toNatClampNeg + n.toNatClampNeg ≤ (S.2.2.1 a).2 ∧ dp.toNatClampNeg + n.toNatClampNeg ≤ (S.2.2.1 b).2) pc ls r (svCpy S a sp.toNatClampNeg b dp.toNatClampNeg n.toNatClampNeg)
  | _ => bad
/-- a call: n values off the stack, the last on top -/
def i_cal (y z : Nat) (sp : Nat → Sp) (e : En) (n : Nat) (q : Prop) (pc : Nat) (ls st : List Value) (S : MS) : Rs :=
  nx (q ∧ z < 100 ∧ 2 ≤ z ∧ mtD z < mtD y ∧ n ≤ st.length ∧ sd8 (st.drop n) ∧ (sp z (st.take n).reverse S).1 ∧ S.1 ≤ (sp z (st.take n).reverse S).2.2.1 ∧ S.2.1 ≤ (sp z (st.take n).reverse S).2.2.2.1 ∧ (sp z (st.take n).reverse S).2.2.1 ≤ e.1.1 ∧ (sp z (st.take n).reverse S).2.2.2.1 ≤ e.1.2)
    pc ls ((sp z (st.take n).reverse S).2.1.toList ++ st.drop n) (sp z (st.take n).reverse S).2.2
def isO (S : MS) (c : Nat) (v : Value) : Prop := match v with
  | .ref a => obj S a c
  | _ => False
def i_inv (y ix : Nat) (sp : Nat → Sp) (e : En) (q : Prop) (pc : Nat) (ls st : List Value) (S : MS) : Rs := match ML (mtO y) ix with
  | some z => i_cal y z sp e (mtA z + 1) (q ∧ mtS z = false ∧ (mtN z).name ≠ "<init>" ∧ isO S (mtO z) (lget st (mtA z))) pc ls st S
  | _ => bad
def i_ivs (y ix : Nat) (sp : Nat → Sp) (e : En) (q : Prop) (pc : Nat) (ls st : List Value) (S : MS) : Rs := match ML (mtO y) ix with
  | some z => if z = 900 then i_cpy (q ∧ 0 < mtD y) pc ls st S else if z = 0 then i_bin (fun a b => .int (if a < b then b else a)) (fun _ _ => True) (q ∧ 0 < mtD y ∧ sd8 (st.drop 2) ∧ S.1 ≤ e.1.1 ∧ S.2.1 ≤ e.1.2) pc ls st S else if z = 1 then i_bin (fun a b => .int (if b < a then b else a)) (fun _ _ => True) (q ∧ 0 < mtD y ∧ sd8 (st.drop 2) ∧ S.1 ≤ e.1.1 ∧ S.2.1 ≤ e.1.2) pc ls st S else i_cal y z sp e (mtA z) (q ∧ mtS z = true) pc ls st S
  | _ => bad
def i_ivp (y ix : Nat) (sp : Nat → Sp) (e : En) (q : Prop) (pc : Nat) (ls st : List Value) (S : MS) : Rs := match ML (mtO y) ix with
  | some z => if z = 901 then (match st with
      | .ref a :: r => nx (q ∧ r = [] ∧ 0 < mtD y) pc ls r S
      | _ => bad) else i_cal y z sp e (mtA z + 1) (q ∧ mtS z = false ∧ (mtN z).name = "<init>" ∧ mtR z = none ∧ isO S (mtO z) (lget st (mtA z))) pc ls st S
  | _ => bad
def i_ret (y : Nat) (q : Prop) (st : List Value) (S : MS) : Rs := match st with
  | [.int v] => (q ∧ (∃ ty, mtR y = some ty ∧ narrow ty (.int v) = .int v), .inr (some (.int v), S))
  | _ => bad
def i_drt (y : Nat) (q : Prop) (st : List Value) (S : MS) : Rs := match st with
  | [.double v] => (q ∧ mtR y = some .double, .inr (some (.double v), S))
  | _ => bad
def i_art (y : Nat) (q : Prop) (st : List Value) (S : MS) : Rs := match st with
  | [.ref a] => (q ∧ (∃ n, mtR y = some (.object n)), .inr (some (.ref a), S))
  | [.null] => (q ∧ (∃ n, mtR y = some (.object n)), .inr (some .null, S))
  | _ => bad
def i_vrt (y : Nat) (q : Prop) (st : List Value) (S : MS) : Rs := match st with
  | [] => (q ∧ mtR y = none, .inr (none, S))
  | _ => bad
def i_dup (q : Prop) (pc : Nat) (ls st : List Value) (S : MS) : Rs := match st with
  | v :: r => nx (q ∧ ct1 v) pc ls (v :: v :: r) S
  | _ => bad
def i_dup2 (q : Prop) (pc : Nat) (ls st : List Value) (S : MS) : Rs := match st with
  | v :: w :: r => nx (q ∧ ct1 v ∧ ct1 w) pc ls (v :: w :: v :: w :: r) S
  | _ => bad
def i_pop (q : Prop) (pc : Nat) (ls st : List Value) (S : MS) : Rs := match st with
  | v :: r => nx (q ∧ ct1 v) pc ls r S
  | _ => bad
def i_ddv (q : Prop) (pc : Nat) (ls st : List Value) (S : MS) : Rs := match st with
  | .double b :: .double a :: r => nx (q ∧ vf_n64 (FP.ddiv a b)) pc ls (.double (FP.ddiv a b) :: r) S
  | _ => bad
def i_dcm (op : CmpOp) (q : Prop) (pc : Nat) (ls st : List Value) (S : MS) : Rs := match st with
  | .double b :: .double a :: r => nx q pc ls (.int (Op.cmpValue (FP.dcmp a b) op) :: r) S
  | _ => bad
def i_ldc (y ix : Nat) (q : Prop) (pc : Nat) (ls st : List Value) (S : MS) : Rs := match CL (mtO y) ix with
  | some v => nx q pc ls (.int v :: st) S
  | _ => bad
def ins (y : Nat) (sp : Nat → Sp) (e : En) (i : Instr) (len pc : Nat) (ls st : List Value) (S : MS) : Rs := match i with
  | .iconst n => nx (len = 1) (pc + 1) ls (.int (Int32.ofInt n) :: st) S
  | .bipush n => nx (len = 2) (pc + 2) ls (.int (Int8.ofInt n).toInt32 :: st) S
  | .sipush n => nx (len = 3) (pc + 3) ls (.int (Int16.ofInt n).toInt32 :: st) S
  | .ldc ix => i_ldc y ix (len = 2) (pc + 2) ls st S
  | .ldc_w ix => i_ldc y ix (len = 3) (pc + 3) ls st S
  | .aconst_null => nx (len = 1) (pc + 1) ls (.null :: st) S
  | .dconst n => nx (len = 1 ∧ n = 0) (pc + 1) ls (.double FP.dconst0 :: st) S
  | .iload_n k => i_ild (len = 1) (pc + 1) k.val ls st S
  | .iload k => i_ild (len = 2) (pc + 2) k ls st S
  | .aload_n k => i_ald (len = 1) (pc + 1) k.val ls st S
  | .dload k => i_dld (len = 2) (pc + 2) k ls st S
  | .istore_n k => i_ist (len = 1) (pc + 1) k.val ls st S
  | .istore k => i_ist (len = 2) (pc + 2) k ls st S
  | .astore_n k => i_ast (len = 1) (pc + 1) k.val ls st S
  | .dstore k => i_dst (len = 2) (pc + 2) k ls st S
  | .iinc k n => i_inc (len = 3) (pc + 3) k n ls st S
  | .iadd => i_bin (fun a b => .int (a + b)) (fun _ _ => True) (len = 1) (pc + 1) ls st S
  | .isub => i_bin (fun a b => .int (a - b)) (fun _ _ => True) (len = 1) (pc + 1) ls st S
  | .imul => i_bin (fun a b => .int (a * b)) (fun _ _ => True) (len = 1) (pc + 1) ls st S
  | .iand => i_bin (fun a b => .int (a &&& b)) (fun _ _ => True) (len = 1) (pc + 1) ls st S
  | .ior => i_bin (fun a b => .int (a ||| b)) (fun _ _ => True) (len = 1) (pc + 1) ls st S
  | .ixor => i_bin (fun a b => .int (a ^^^ b)) (fun _ _ => True) (len = 1) (pc + 1) ls st S
  | .ishl => i_bin (fun a b => .int (a <<< (b &&& 31))) (fun _ _ => True) (len = 1) (pc + 1) ls st S
  | .ishr => i_bin (fun a b => .int (a >>> (b &&& 31))) (fun _ _ => True) (len = 1) (pc + 1) ls st S
  | .iushr => i_bin (fun a b => .int (a.toUInt32 >>> (b.toUInt32 &&& Int32.toUInt32 31)).toInt32) (fun _ _ => True) (len = 1) (pc + 1) ls st S
  | .idiv => i_bin (fun a b => .int (a / b)) (fun _ b => ¬ b = 0) (len = 1) (pc + 1) ls st S
  | .irem => i_bin (fun a b => .int (a - a / b * b)) (fun _ b => ¬ b = 0) (len = 1) (pc + 1) ls st S
  | .ineg => i_un (fun a => .int (-a)) (len = 1) (pc + 1) ls st S
  | .i2c => i_un (fun a => .int (a.toUInt32 % 65536).toInt32) (len = 1) (pc + 1) ls st S
  | .i2d => i_un (fun a => .double (FP.i2d a)) (len = 1) (pc + 1) ls st S
  | .ddiv => i_ddv (len = 1) (pc + 1) ls st S
  | .dcmp op => i_dcm op (len = 1) (pc + 1) ls st S
  | .dup => i_dup (len = 1) (pc + 1) ls st S
  | .dup2 => i_dup2 (len = 1) (pc + 1) ls st S
  | .pop => i_pop (len = 1) (pc + 1) ls st S
  | .ifCond c off => i_if1 c off (len = 3) pc ls st S
  | .if_icmp c off => i_if2 c off (len = 3) pc ls st S
  | .ifnull off => i_nul off (len = 3) pc ls st S
  | .ifnonnull off => i_nnl off (len = 3) pc ls st S
  | .goto off => nx (len = 3 ∧ tgo pc off) (tg pc off) ls st S
  | .tableswitch d lo hi offs => i_tsw d lo hi offs pc ls st S
  | .lookupswitch d ps => i_lsw d ps pc ls st S
  | .getfield ix => i_get y ix (len = 3) (pc + 3) ls st S
  | .putfield ix => i_put y ix (len = 3) (pc + 3) ls st S
  | .getstatic ix => i_gst y ix (len = 3) (pc + 3) ls st S
  | .arraylength => i_len e (len = 1) (pc + 1) ls st S
  | .iaload => i_ard e 7 (len = 1) (pc + 1) ls st S
  | .caload => i_ard e 6 (len = 1) (pc + 1) ls st S
  | .aaload => i_aqd (len = 1) (pc + 1) ls st S
  | .iastore => i_ast7 (len = 1) (pc + 1) ls st S
  | .castore => i_ast6 (len = 1) (pc + 1) ls st S
  | .aastore => i_ast8 (len = 1) (pc + 1) ls st S
  | .new ix => i_new y ix e (len = 3) (pc + 3) ls st S
  | .newarray t => i_nar t e (len = 2) (pc + 2) ls st S
  | .anewarray ix => i_naq y ix e (len = 3) (pc + 3) ls st S
  | .invokevirtual ix => i_inv y ix sp e (len = 3) (pc + 3) ls st S
  | .invokestatic ix => i_ivs y ix sp e (len = 3) (pc + 3) ls st S
  | .invokespecial ix => i_ivp y ix sp e (len = 3) (pc + 3) ls st S
  | .ireturn => i_ret y (len = 1) st S
  | .dreturn => i_drt y (len = 1) st S
  | .areturn => i_art y (len = 1) st S
  | .return_ => i_vrt y (len = 1) st S
  | _ => bad
def stp (y : Nat) (sp : Nat → Sp) (e : En) (pc : Nat) (ls st : List Value) (S : MS) : Rs := match decode (mtC y) pc with
  | .ok (i, len) => ins y sp e i len pc ls st S
  | _ => bad
def run (y : Nat) (sp : Nat → Sp) (e : En) : Nat → Nat → List Value → List Value → MS → (Option Value → MS → Prop) → Prop
  | 0, _, _, _, _, _ => False
  | n + 1, pc, ls, st, S, Q => (stp y sp e pc ls st S).1 ∧ match (stp y sp e pc ls st S).2 with
    | .inl c => run y sp e n c.1 c.2.1 c.2.2.1 c.2.2.2 Q
    | .inr r => Q r.1 r.2
/-- from this point method y ends, with Q of its answer and of the cells -/
def Vf (y : Nat) (sp : Nat → Sp) (e : En) (pc : Nat) (ls st : List Value) (S : MS) (Q : Option Value → MS → Prop) : Prop := ∃ n, run y sp e n pc ls st S Q
theorem Vf.eq {y : Nat} {sp : Nat → Sp} {e : En} {pc : Nat} {ls st : List Value} {S : MS} {Q : Option Value → MS → Prop} : Vf y sp e pc ls st S Q = ((stp y sp e pc ls st S).1 ∧ match (stp y sp e pc ls st S).2 with
    | .inl c => Vf y sp e c.1 c.2.1 c.2.2.1 c.2.2.2 Q
    | .inr r => Q r.1 r.2) := by
  apply propext
  constructor
  · rintro ⟨n, h⟩
    cases n with
    | zero => exact absurd h (by simp [run])
    | succ n =>
      simp only [run] at h
      refine ⟨h.1, ?_⟩
      cases hc : (stp y sp e pc ls st S).2 with
      | inl c => rw [hc] at h; exact ⟨n, h.2⟩
      | inr r => rw [hc] at h; exact h.2
  · intro h
    cases hc : (stp y sp e pc ls st S).2 with
    | inl c =>
      rw [hc] at h
      obtain ⟨h1, n, h2⟩ := h
      exact ⟨n + 1, by simp only [run]; exact ⟨h1, by rw [hc]; exact h2⟩⟩
    | inr r =>
      rw [hc] at h
      exact ⟨1, by simp only [run]; exact ⟨h.1, by rw [hc]; exact h.2⟩⟩
theorem Vf.nx {y : Nat} {sp : Nat → Sp} {e : En} {pc : Nat} {ls st : List Value} {S : MS} {Q : Option Value → MS → Prop} {p : Prop} {pc1 : Nat} {ls1 st1 : List Value} {S1 : MS} (h : stp y sp e pc ls st S = nx p pc1 ls1 st1 S1) : Vf y sp e pc ls st S Q = (p ∧ Vf y sp e pc1 ls1 st1 S1 Q) := by
  rw [Vf.eq, h]
  rfl
theorem Vf.rt {y : Nat} {sp : Nat → Sp} {e : En} {pc : Nat} {ls st : List Value} {S : MS} {Q : Option Value → MS → Prop} {p : Prop} {r : Option Value} {S1 : MS} (h : stp y sp e pc ls st S = (p, .inr (r, S1))) : Vf y sp e pc ls st S Q = (p ∧ Q r S1) := by
  rw [Vf.eq, h]
theorem stp_of {y : Nat} {sp : Nat → Sp} {e : En} {pc : Nat} {ls st : List Value} {S : MS} {i : Instr} {len : Nat} (h : decode (mtC y) pc = .ok (i, len)) : stp y sp e pc ls st S = ins y sp e i len pc ls st S := by
  unfold stp
  rw [h]
