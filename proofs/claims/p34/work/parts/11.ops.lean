/-! one instruction in the small machine, as an equation of what is to be shown -/
section OPS
variable {y : Nat} {sp : Nat → Sp} {e : En} {pc : Nat} {ls st : List Value} {S : MS} {Q : Option Value → MS → Prop}
theorem o_nx {p : Prop} {pc1 : Nat} {ls1 st1 : List Value} {S1 : MS} {i : Instr} {len : Nat} (hd : decode (mtC y) pc = .ok (i, len)) (h : ins y sp e i len pc ls st S = nx p pc1 ls1 st1 S1) : Vf y sp e pc ls st S Q = (p ∧ Vf y sp e pc1 ls1 st1 S1 Q) := Vf.nx ((stp_of hd).trans h)
theorem o_t {p A B : Prop} (hp : p) (h : A = (p ∧ B)) : A = B := by rw [h]; exact propext ⟨fun x => x.2, fun x => ⟨hp, x⟩⟩
theorem o_iconst {n : Int} {v : Int32} (hd : decode (mtC y) pc = .ok (.iconst n, 1)) (hv : Int32.ofInt n = v) : Vf y sp e pc ls st S Q = Vf y sp e (pc + 1) ls (.int v :: st) S Q := by
  subst hv
  exact o_t rfl (o_nx hd rfl)
theorem o_bipush {n : Int} {v : Int32} (hd : decode (mtC y) pc = .ok (.bipush n, 2)) (hv : (Int8.ofInt n).toInt32 = v) : Vf y sp e pc ls st S Q = Vf y sp e (pc + 2) ls (.int v :: st) S Q := by
  subst hv
  exact o_t rfl (o_nx hd rfl)
theorem o_sipush {n : Int} {v : Int32} (hd : decode (mtC y) pc = .ok (.sipush n, 3)) (hv : (Int16.ofInt n).toInt32 = v) : Vf y sp e pc ls st S Q = Vf y sp e (pc + 3) ls (.int v :: st) S Q := by
  subst hv
  exact o_t rfl (o_nx hd rfl)
theorem o_ldc {ix : Nat} {v : Int32} (hd : decode (mtC y) pc = .ok (.ldc ix, 2)) (hv : CL (mtO y) ix = some v) : Vf y sp e pc ls st S Q = Vf y sp e (pc + 2) ls (.int v :: st) S Q := by
  refine o_t (p := (2 = 2)) rfl (o_nx hd ?_)
  show i_ldc y ix _ _ ls st S = _
  unfold i_ldc
  rw [hv]
theorem o_ldcw {ix : Nat} {v : Int32} (hd : decode (mtC y) pc = .ok (.ldc_w ix, 3)) (hv : CL (mtO y) ix = some v) : Vf y sp e pc ls st S Q = Vf y sp e (pc + 3) ls (.int v :: st) S Q := by
  refine o_t (p := (3 = 3)) rfl (o_nx hd ?_)
  show i_ldc y ix _ _ ls st S = _
  unfold i_ldc
  rw [hv]
theorem o_null (hd : decode (mtC y) pc = .ok (.aconst_null, 1)) : Vf y sp e pc ls st S Q = Vf y sp e (pc + 1) ls (.null :: st) S Q := o_t rfl (o_nx hd rfl)
theorem o_dconst (hd : decode (mtC y) pc = .ok (.dconst 0, 1)) : Vf y sp e pc ls st S Q = Vf y sp e (pc + 1) ls (.double FP.dconst0 :: st) S Q := o_t ⟨rfl, rfl⟩ (o_nx hd rfl)
theorem o_iloadn {k : Fin 4} {x : Int32} (hd : decode (mtC y) pc = .ok (.iload_n k, 1)) (h : lget ls k.val = .int x) : Vf y sp e pc ls st S Q = Vf y sp e (pc + 1) ls (.int x :: st) S Q := by
  refine o_t (p := (1 = 1)) rfl (o_nx hd ?_)
  show i_ild _ _ _ ls st S = _
  unfold i_ild
  rw [h]
theorem o_iload {k : Nat} {x : Int32} (hd : decode (mtC y) pc = .ok (.iload k, 2)) (h : lget ls k = .int x) : Vf y sp e pc ls st S Q = Vf y sp e (pc + 2) ls (.int x :: st) S Q := by
  refine o_t (p := (2 = 2)) rfl (o_nx hd ?_)
  show i_ild _ _ _ ls st S = _
  unfold i_ild
  rw [h]
theorem o_aloadn {k : Fin 4} {x : Nat} (hd : decode (mtC y) pc = .ok (.aload_n k, 1)) (h : lget ls k.val = .ref x) : Vf y sp e pc ls st S Q = Vf y sp e (pc + 1) ls (.ref x :: st) S Q := by
  refine o_t (p := (1 = 1)) rfl (o_nx hd ?_)
  show i_ald _ _ _ ls st S = _
  unfold i_ald
  rw [h]
theorem o_dload {k : Nat} {x : UInt64} (hd : decode (mtC y) pc = .ok (.dload k, 2)) (h : lget ls k = .double x) : Vf y sp e pc ls st S Q = Vf y sp e (pc + 2) ls (.double x :: st) S Q := by
  refine o_t (p := (2 = 2)) rfl (o_nx hd ?_)
  show i_dld _ _ _ ls st S = _
  unfold i_dld
  rw [h]
theorem stok0 {a : Value} {l : List Value} : stok (a :: l) 0 := ⟨by simp, fun j h => by omega⟩
theorem stokS {k : Nat} {w : Value} (h : k + 1 < ls.length) (hg : lget ls k = w) (hc : ct1 w) : stok ls (k + 1) := ⟨h, fun j hj => by
  have : j = k := by omega
  rw [this, hg]
  exact hc⟩
theorem stok_iff {k : Nat} {w : Value} (h : k + 1 < ls.length) (hg : lget ls k = w) : stok ls (k + 1) = ct1 w := propext ⟨fun q => by have := q.2 k rfl; rw [hg] at this; exact this, fun q => stokS h hg q⟩
theorem o_istoren {k : Fin 4} {x : Int32} {ls' : List Value} {p : Prop} (hd : decode (mtC y) pc = .ok (.istore_n k, 1)) (hl : lset ls k.val (.int x) = ls') (hp : stok ls k.val = p) : Vf y sp e pc ls (.int x :: st) S Q = (p ∧ Vf y sp e (pc + 1) ls' st S Q) := by
  subst hl; subst hp
  rw [o_nx hd (pc1 := pc + 1) (ls1 := lset ls k.val (.int x)) (st1 := st) (S1 := S) (p := (1 = 1 ∧ stok ls k.val)) rfl]
  simp
theorem o_istore {k : Nat} {x : Int32} {ls' : List Value} {p : Prop} (hd : decode (mtC y) pc = .ok (.istore k, 2)) (hl : lset ls k (.int x) = ls') (hp : stok ls k = p) : Vf y sp e pc ls (.int x :: st) S Q = (p ∧ Vf y sp e (pc + 2) ls' st S Q) := by
  subst hl; subst hp
  rw [o_nx hd (pc1 := pc + 2) (ls1 := lset ls k (.int x)) (st1 := st) (S1 := S) (p := (2 = 2 ∧ stok ls k)) rfl]
  simp
theorem o_astoren {k : Fin 4} {x : Nat} {ls' : List Value} {p : Prop} (hd : decode (mtC y) pc = .ok (.astore_n k, 1)) (hl : lset ls k.val (.ref x) = ls') (hp : stok ls k.val = p) : Vf y sp e pc ls (.ref x :: st) S Q = (p ∧ Vf y sp e (pc + 1) ls' st S Q) := by
  subst hl; subst hp
  rw [o_nx hd (pc1 := pc + 1) (ls1 := lset ls k.val (.ref x)) (st1 := st) (S1 := S) (p := (1 = 1 ∧ stok ls k.val)) rfl]
  simp
theorem o_dstore {k : Nat} {x : UInt64} {ls' : List Value} {p : Prop} (hd : decode (mtC y) pc = .ok (.dstore k, 2)) (hl : lset (lset ls k (.double x)) (k + 1) .null = ls') (hp : stok ls k = p) (hk : k + 1 < ls.length) : Vf y sp e pc ls (.double x :: st) S Q = (p ∧ Vf y sp e (pc + 2) ls' st S Q) := by
  subst hl; subst hp
  rw [o_nx hd (pc1 := pc + 2) (ls1 := lset (lset ls k (.double x)) (k + 1) .null) (st1 := st) (S1 := S) (p := (2 = 2 ∧ stok ls k ∧ k + 1 < ls.length)) rfl]
  simp [hk]
theorem o_iinc {k : Nat} {n : Int} {x v : Int32} {ls' : List Value} {p : Prop} (hd : decode (mtC y) pc = .ok (.iinc k n, 3)) (h : lget ls k = .int x) (hv : Int32.ofInt n = v) (hl : lset ls k (.int (x + v)) = ls') (hp : stok ls k = p) : Vf y sp e pc ls st S Q = (p ∧ Vf y sp e (pc + 3) ls' st S Q) := by
  subst hl; subst hp; subst hv
  have e1 : ins y sp e (.iinc k n) 3 pc ls st S = nx (3 = 3 ∧ stok ls k) (pc + 3) (lset ls k (.int (x + Int32.ofInt n))) st S := by
    show i_inc _ _ _ _ ls st S = _
    unfold i_inc
    rw [h]
  rw [o_nx hd e1]
  simp
theorem o_bin {f : Int32 → Int32 → Value} {a b : Int32} {i : Instr} (hd : decode (mtC y) pc = .ok (i, 1)) (h : ins y sp e i 1 pc ls (.int b :: .int a :: st) S = i_bin f (fun _ _ => True) (1 = 1) (pc + 1) ls (.int b :: .int a :: st) S) : Vf y sp e pc ls (.int b :: .int a :: st) S Q = Vf y sp e (pc + 1) ls (f a b :: st) S Q := o_t ⟨rfl, trivial⟩ (o_nx hd h)
theorem o_idiv {a b : Int32} (hd : decode (mtC y) pc = .ok (.idiv, 1)) : Vf y sp e pc ls (.int b :: .int a :: st) S Q = (¬ b = 0 ∧ Vf y sp e (pc + 1) ls (.int (a / b) :: st) S Q) := by
  rw [o_nx hd (pc1 := pc + 1) (ls1 := ls) (st1 := .int (a / b) :: st) (S1 := S) (p := (1 = 1 ∧ ¬ b = 0)) rfl]
  simp
theorem o_irem {a b : Int32} (hd : decode (mtC y) pc = .ok (.irem, 1)) : Vf y sp e pc ls (.int b :: .int a :: st) S Q = (¬ b = 0 ∧ Vf y sp e (pc + 1) ls (.int (a - a / b * b) :: st) S Q) := by
  rw [o_nx hd (pc1 := pc + 1) (ls1 := ls) (st1 := .int (a - a / b * b) :: st) (S1 := S) (p := (1 = 1 ∧ ¬ b = 0)) rfl]
  simp
theorem o_un {f : Int32 → Value} {a : Int32} {i : Instr} (hd : decode (mtC y) pc = .ok (i, 1)) (h : ins y sp e i 1 pc ls (.int a :: st) S = i_un f (1 = 1) (pc + 1) ls (.int a :: st) S) : Vf y sp e pc ls (.int a :: st) S Q = Vf y sp e (pc + 1) ls (f a :: st) S Q := o_t rfl (o_nx hd h)
theorem o_ddiv {a b : UInt64} (hd : decode (mtC y) pc = .ok (.ddiv, 1)) : Vf y sp e pc ls (.double b :: .double a :: st) S Q = (vf_n64 (FP.ddiv a b) ∧ Vf y sp e (pc + 1) ls (.double (FP.ddiv a b) :: st) S Q) := by
  rw [o_nx hd (pc1 := pc + 1) (ls1 := ls) (st1 := .double (FP.ddiv a b) :: st) (S1 := S) (p := (1 = 1 ∧ vf_n64 (FP.ddiv a b))) rfl]
  simp
theorem o_dcmp {a b : UInt64} {op : CmpOp} (hd : decode (mtC y) pc = .ok (.dcmp op, 1)) : Vf y sp e pc ls (.double b :: .double a :: st) S Q = Vf y sp e (pc + 1) ls (.int (Op.cmpValue (FP.dcmp a b) op) :: st) S Q := o_t rfl (o_nx hd rfl)
theorem o_dup {v : Value} (hd : decode (mtC y) pc = .ok (.dup, 1)) : Vf y sp e pc ls (v :: st) S Q = (ct1 v ∧ Vf y sp e (pc + 1) ls (v :: v :: st) S Q) := by
  rw [o_nx hd (pc1 := pc + 1) (ls1 := ls) (st1 := v :: v :: st) (S1 := S) (p := (1 = 1 ∧ ct1 v)) rfl]
  simp
theorem o_dup2 {v w : Value} (hd : decode (mtC y) pc = .ok (.dup2, 1)) : Vf y sp e pc ls (v :: w :: st) S Q = ((ct1 v ∧ ct1 w) ∧ Vf y sp e (pc + 1) ls (v :: w :: v :: w :: st) S Q) := by
  rw [o_nx hd (pc1 := pc + 1) (ls1 := ls) (st1 := v :: w :: v :: w :: st) (S1 := S) (p := (1 = 1 ∧ ct1 v ∧ ct1 w)) rfl]
  simp
theorem o_pop {v : Value} (hd : decode (mtC y) pc = .ok (.pop, 1)) : Vf y sp e pc ls (v :: st) S Q = (ct1 v ∧ Vf y sp e (pc + 1) ls st S Q) := by
  rw [o_nx hd (pc1 := pc + 1) (ls1 := ls) (st1 := st) (S1 := S) (p := (1 = 1 ∧ ct1 v)) rfl]
  simp
theorem o_goto {off : Int} {t : Nat} (hd : decode (mtC y) pc = .ok (.goto off, 3)) (h0 : tgo pc off) (ht : tg pc off = t) : Vf y sp e pc ls st S Q = Vf y sp e t ls st S Q := by
  subst ht
  exact o_t ⟨rfl, h0⟩ (o_nx hd rfl)
theorem o_if1 {cd : Jvm.ClassFile.Cond} {off : Int} {t : Nat} {a : Int32} {p : Prop} [Decidable p] (hd : decode (mtC y) pc = .ok (.ifCond cd off, 3)) (h0 : tgo pc off) (ht : tg pc off = t) (hc : cnd cd a 0 = true ↔ p) : Vf y sp e pc ls (.int a :: st) S Q = if p then Vf y sp e t ls st S Q else Vf y sp e (pc + 3) ls st S Q := by
  subst ht
  rw [o_nx hd (pc1 := if cnd cd a 0 = true then tg pc off else pc + 3) (ls1 := ls) (st1 := st) (S1 := S) (p := (3 = 3 ∧ tgo pc off)) rfl]
  by_cases h : p
  · rw [if_pos h, if_pos (hc.mpr h)]; simp [h0]
  · rw [if_neg h, if_neg (fun q => h (hc.mp q))]; simp [h0]
theorem o_if2 {cd : Jvm.ClassFile.Cond} {off : Int} {t : Nat} {a b : Int32} {p : Prop} [Decidable p] (hd : decode (mtC y) pc = .ok (.if_icmp cd off, 3)) (h0 : tgo pc off) (ht : tg pc off = t) (hc : cnd cd a b = true ↔ p) : Vf y sp e pc ls (.int b :: .int a :: st) S Q = if p then Vf y sp e t ls st S Q else Vf y sp e (pc + 3) ls st S Q := by
  subst ht
  rw [o_nx hd (pc1 := if cnd cd a b = true then tg pc off else pc + 3) (ls1 := ls) (st1 := st) (S1 := S) (p := (3 = 3 ∧ tgo pc off)) rfl]
  by_cases h : p
  · rw [if_pos h, if_pos (hc.mpr h)]; simp [h0]
  · rw [if_neg h, if_neg (fun q => h (hc.mp q))]; simp [h0]
theorem o_ifnull {off : Int} {x : Nat} (hd : decode (mtC y) pc = .ok (.ifnull off, 3)) : Vf y sp e pc ls (.ref x :: st) S Q = Vf y sp e (pc + 3) ls st S Q := o_t rfl (o_nx hd rfl)
theorem o_ifnonnull {off : Int} {x t : Nat} (hd : decode (mtC y) pc = .ok (.ifnonnull off, 3)) (h0 : tgo pc off) (ht : tg pc off = t) : Vf y sp e pc ls (.ref x :: st) S Q = Vf y sp e t ls st S Q := by
  subst ht
  exact o_t ⟨rfl, h0⟩ (o_nx hd rfl)
theorem o_tsw {d lo hi : Int} {offs : Array Int} {len : Nat} {x : Int32} {t : Nat} (hd : decode (mtC y) pc = .ok (.tableswitch d lo hi offs, len)) (h0 : tgo pc (tsw pc x d lo hi offs)) (ht : tg pc (tsw pc x d lo hi offs) = t) (h1 : ¬ (x.toInt < lo ∨ hi < x.toInt) → (x.toInt - lo).toNat < offs.size) : Vf y sp e pc ls (.int x :: st) S Q = Vf y sp e t ls st S Q := by
  subst ht
  exact o_t ⟨h0, h1⟩ (o_nx hd rfl)
theorem o_lsw {d : Int} {ps : Array (Int × Int)} {len : Nat} {x : Int32} {t : Nat} (hd : decode (mtC y) pc = .ok (.lookupswitch d ps, len)) (h0 : tgo pc (Op.lookupswitch.offset ps.toList d x.toInt)) (ht : tg pc (Op.lookupswitch.offset ps.toList d x.toInt) = t) (h1 : (ps.toList.zip (ps.toList.drop 1)).all (fun (a, next) => a.1 < next.1) = true) : Vf y sp e pc ls (.int x :: st) S Q = Vf y sp e t ls st S Q := by
  subst ht
  exact o_t ⟨h0, h1⟩ (o_nx hd rfl)
theorem o_get {ix a c k : Nat} (hd : decode (mtC y) pc = .ok (.getfield ix, 3)) (hf : FL (mtO y) ix = some (c, k)) (hk : k < nf c) : Vf y sp e pc ls (.ref a :: st) S Q = (obj S a c ∧ Vf y sp e (pc + 3) ls (S.2.2.2 a k :: st) S Q) := by
  have e1 : ins y sp e (.getfield ix) 3 pc ls (.ref a :: st) S = nx (3 = 3 ∧ obj S a c ∧ k < nf c) (pc + 3) ls (S.2.2.2 a k :: st) S := by
    show i_get y ix _ _ ls _ S = _
    unfold i_get
    rw [hf]
  rw [o_nx hd e1]
  simp [hk]
theorem o_put {ix a c k : Nat} {v : Value} {ty : FieldType} (hd : decode (mtC y) pc = .ok (.putfield ix, 3)) (hf : FL (mtO y) ix = some (c, k)) (hk : k < nf c ∧ ((fT c k).2.2.2 = true → mtO y = c ∧ (mtN y).name = "<init>")) (ht : fty c k = ty) : Vf y sp e pc ls (v :: .ref a :: st) S Q = (obj S a c ∧ fok ty v ∧ Vf y sp e (pc + 3) ls st (svSet S a k v) Q) := by
  subst ht
  have e1 : ins y sp e (.putfield ix) 3 pc ls (v :: .ref a :: st) S = nx (3 = 3 ∧ obj S a c ∧ k < nf c ∧ ((fT c k).2.2.2 = true → mtO y = c ∧ (mtN y).name = "<init>") ∧ fok (fty c k) v) (pc + 3) ls st (svSet S a k v) := by
    show i_put y ix _ _ ls _ S = _
    unfold i_put
    rw [hf]
  rw [o_nx hd e1]
  apply propext
  constructor
  · rintro ⟨⟨-, h1, -, -, h2⟩, h3⟩
    exact ⟨h1, h2, h3⟩
  · rintro ⟨h1, h2, h3⟩
    exact ⟨⟨rfl, h1, hk.1, hk.2, h2⟩, h3⟩
theorem o_gst {ix t : Nat} (hd : decode (mtC y) pc = .ok (.getstatic ix, 3)) (hf : SL (mtO y) ix = some t) (hk : t < 3) : Vf y sp e pc ls st S Q = Vf y sp e (pc + 3) ls (.ref (1000 + t) :: st) S Q := by
  refine o_t (p := (3 = 3 ∧ t < 3)) ⟨rfl, hk⟩ (o_nx hd ?_)
  show i_gst y ix _ _ ls st S = _
  unfold i_gst
  rw [hf]
theorem o_len {a : Nat} (hd : decode (mtC y) pc = .ok (.arraylength, 1)) : Vf y sp e pc ls (.ref a :: st) S Q = ((aok S a 7 ∨ aok S a 6 ∨ aok S a 8) ∧ Vf y sp e (pc + 1) ls (.int (Int32.ofNat (aln e S a)) :: st) S Q) := by
  rw [o_nx hd (pc1 := pc + 1) (ls1 := ls) (st1 := .int (Int32.ofNat (aln e S a)) :: st) (S1 := S) (p := (1 = 1 ∧ (aok S a 7 ∨ aok S a 6 ∨ aok S a 8))) rfl]
  simp
theorem o_iald {a : Nat} {i : Int32} (hd : decode (mtC y) pc = .ok (.iaload, 1)) : Vf y sp e pc ls (.int i :: .ref a :: st) S Q = ((aok S a 7 ∧ iin i (aln e S a)) ∧ Vf y sp e (pc + 1) ls (.int (ard e S a i.toNatClampNeg) :: st) S Q) := by
  rw [o_nx hd (pc1 := pc + 1) (ls1 := ls) (st1 := .int (ard e S a i.toNatClampNeg) :: st) (S1 := S) (p := (1 = 1 ∧ aok S a 7 ∧ iin i (aln e S a))) rfl]
  simp
theorem o_cald {a : Nat} {i : Int32} (hd : decode (mtC y) pc = .ok (.caload, 1)) : Vf y sp e pc ls (.int i :: .ref a :: st) S Q = ((aok S a 6 ∧ iin i (aln e S a)) ∧ Vf y sp e (pc + 1) ls (.int (ard e S a i.toNatClampNeg) :: st) S Q) := by
  rw [o_nx hd (pc1 := pc + 1) (ls1 := ls) (st1 := .int (ard e S a i.toNatClampNeg) :: st) (S1 := S) (p := (1 = 1 ∧ aok S a 6 ∧ iin i (aln e S a))) rfl]
  simp
theorem o_aald {a : Nat} {i : Int32} (hd : decode (mtC y) pc = .ok (.aaload, 1)) : Vf y sp e pc ls (.int i :: .ref a :: st) S Q = ((ari S a 8 ∧ iin i (S.2.2.1 a).2 ∧ (∀ x, toR (S.2.2.2 a i.toNatClampNeg) = some x → x < 1000)) ∧ Vf y sp e (pc + 1) ls ((match toR (S.2.2.2 a i.toNatClampNeg) with
    | some x => .ref x
    | none => .null) :: st) S Q) := by
  rw [o_nx hd (pc1 := pc + 1) (ls1 := ls) (st1 := (match toR (S.2.2.2 a i.toNatClampNeg) with
    | some x => .ref x
    | none => .null) :: st) (S1 := S) (p := (1 = 1 ∧ ari S a 8 ∧ iin i (S.2.2.1 a).2 ∧ (∀ x, toR (S.2.2.2 a i.toNatClampNeg) = some x → x < 1000))) rfl]
  simp
theorem o_iast {a : Nat} {i x : Int32} (hd : decode (mtC y) pc = .ok (.iastore, 1)) : Vf y sp e pc ls (.int x :: .int i :: .ref a :: st) S Q = ((ari S a 7 ∧ iin i (S.2.2.1 a).2) ∧ Vf y sp e (pc + 1) ls st (svSet S a i.toNatClampNeg (.int x)) Q) := by
  rw [o_nx hd (pc1 := pc + 1) (ls1 := ls) (st1 := st) (S1 := svSet S a i.toNatClampNeg (.int x)) (p := (1 = 1 ∧ ari S a 7 ∧ iin i (S.2.2.1 a).2)) rfl]
  simp
theorem o_cast {a : Nat} {i x : Int32} (hd : decode (mtC y) pc = .ok (.castore, 1)) : Vf y sp e pc ls (.int x :: .int i :: .ref a :: st) S Q = ((ari S a 6 ∧ iin i (S.2.2.1 a).2) ∧ Vf y sp e (pc + 1) ls st (svSet S a i.toNatClampNeg (.int (vp_nar .char x))) Q) := by
  rw [o_nx hd (pc1 := pc + 1) (ls1 := ls) (st1 := st) (S1 := svSet S a i.toNatClampNeg (.int (vp_nar .char x))) (p := (1 = 1 ∧ ari S a 6 ∧ iin i (S.2.2.1 a).2)) rfl]
  simp
theorem o_aast {a x : Nat} {i : Int32} (hd : decode (mtC y) pc = .ok (.aastore, 1)) : Vf y sp e pc ls (.ref x :: .int i :: .ref a :: st) S Q = ((ari S a 8 ∧ iin i (S.2.2.1 a).2 ∧ obj S x 0) ∧ Vf y sp e (pc + 1) ls st (svSet S a i.toNatClampNeg (.ref x)) Q) := by
  rw [o_nx hd (pc1 := pc + 1) (ls1 := ls) (st1 := st) (S1 := svSet S a i.toNatClampNeg (.ref x)) (p := (1 = 1 ∧ ari S a 8 ∧ iin i (S.2.2.1 a).2 ∧ obj S x 0)) rfl]
  simp
theorem o_new {ix c : Nat} (hd : decode (mtC y) pc = .ok (.new ix, 3)) (hn : NL (mtO y) ix = some c) (hc : c < 5) : Vf y sp e pc ls st S Q = ((S.1 < 1000 ∧ S.1 + 1 ≤ e.1.1 ∧ S.2.1 + nf c ≤ e.1.2) ∧ Vf y sp e (pc + 3) ls (.ref S.1 :: st) (svNew S c 0 (nf c) (fun k => defaultValue (fty c k))) Q) := by
  have e1 : ins y sp e (.new ix) 3 pc ls st S = nx (3 = 3 ∧ S.1 < 1000 ∧ c < 5 ∧ S.1 + 1 ≤ e.1.1 ∧ S.2.1 + nf c ≤ e.1.2) (pc + 3) ls (.ref S.1 :: st) (svNew S c 0 (nf c) (fun k => defaultValue (fty c k))) := by
    show i_new y ix e _ _ ls _ S = _
    unfold i_new
    rw [hn]
  rw [o_nx hd e1]
  simp [hc]
theorem o_nar {t : ArrayType} {n : Int32} {kd : Nat} (hd : decode (mtC y) pc = .ok (.newarray t, 2)) (ht : (t = .int ∨ t = .char) ∧ (if t = .char then 6 else 7) = kd) : Vf y sp e pc ls (.int n :: st) S Q = ((S.1 < 1000 ∧ ¬ n < 0 ∧ n.toNatClampNeg ≤ 100000 ∧ S.1 + 1 ≤ e.1.1 ∧ S.2.1 + n.toNatClampNeg ≤ e.1.2) ∧ Vf y sp e (pc + 2) ls (.ref S.1 :: st) (svNew S kd n.toNatClampNeg n.toNatClampNeg (fun _ => .int 0)) Q) := by
  obtain ⟨h1, h2⟩ := ht
  subst h2
  rw [o_nx hd (pc1 := pc + 2) (ls1 := ls) (st1 := .ref S.1 :: st) (S1 := svNew S (if t = .char then 6 else 7) n.toNatClampNeg n.toNatClampNeg (fun _ => .int 0)) (p := (2 = 2 ∧ S.1 < 1000 ∧ (t = .int ∨ t = .char) ∧ ¬ n < 0 ∧ n.toNatClampNeg ≤ 100000 ∧ S.1 + 1 ≤ e.1.1 ∧ S.2.1 + n.toNatClampNeg ≤ e.1.2)) rfl]
  apply propext
  constructor
  · rintro ⟨⟨-, g1, -, g2⟩, g3⟩
    exact ⟨⟨g1, g2⟩, g3⟩
  · rintro ⟨⟨g1, g2⟩, g3⟩
    exact ⟨⟨rfl, g1, h1, g2⟩, g3⟩
theorem o_naq {ix : Nat} {n : Int32} (hd : decode (mtC y) pc = .ok (.anewarray ix, 3)) (ht : NL (mtO y) ix = some 0) : Vf y sp e pc ls (.int n :: st) S Q = ((S.1 < 1000 ∧ ¬ n < 0 ∧ n.toNatClampNeg ≤ 100000 ∧ S.1 + 1 ≤ e.1.1 ∧ S.2.1 + n.toNatClampNeg ≤ e.1.2) ∧ Vf y sp e (pc + 3) ls (.ref S.1 :: st) (svNew S 8 n.toNatClampNeg n.toNatClampNeg (fun _ => .null)) Q) := by
  rw [o_nx hd (pc1 := pc + 3) (ls1 := ls) (st1 := .ref S.1 :: st) (S1 := svNew S 8 n.toNatClampNeg n.toNatClampNeg (fun _ => .null)) (p := (3 = 3 ∧ NL (mtO y) ix = some 0 ∧ S.1 < 1000 ∧ ¬ n < 0 ∧ n.toNatClampNeg ≤ 100000 ∧ S.1 + 1 ≤ e.1.1 ∧ S.2.1 + n.toNatClampNeg ≤ e.1.2)) rfl]
  simp [ht]
theorem o_iret {v : Int32} (hd : decode (mtC y) pc = .ok (.ireturn, 1)) (hr : mtR y = some .int) : Vf y sp e pc ls [.int v] S Q = Q (some (.int v)) S := o_t ⟨rfl, _, hr, rfl⟩ (Vf.rt ((stp_of hd).trans rfl))
def rb (v : Int32) : Prop := narrow .boolean (.int v) = .int v
theorem o_zret {v : Int32} (hd : decode (mtC y) pc = .ok (.ireturn, 1)) (hr : mtR y = some .boolean) : Vf y sp e pc ls [.int v] S Q = (rb v ∧ Q (some (.int v)) S) := by
  rw [Vf.rt ((stp_of hd).trans (rfl : ins y sp e .ireturn 1 pc ls [.int v] S = (1 = 1 ∧ (∃ ty, mtR y = some ty ∧ narrow ty (.int v) = .int v), .inr (some (.int v), S))))]
  rw [hr]
  simp [rb]
theorem o_dret {v : UInt64} (hd : decode (mtC y) pc = .ok (.dreturn, 1)) (hr : mtR y = some .double) : Vf y sp e pc ls [.double v] S Q = Q (some (.double v)) S := o_t ⟨rfl, hr⟩ (Vf.rt ((stp_of hd).trans rfl))
theorem o_aret {a : Nat} {n : String} (hd : decode (mtC y) pc = .ok (.areturn, 1)) (hr : mtR y = some (.object n)) : Vf y sp e pc ls [.ref a] S Q = Q (some (.ref a)) S := o_t ⟨rfl, n, hr⟩ (Vf.rt ((stp_of hd).trans rfl))
theorem o_aretn {n : String} (hd : decode (mtC y) pc = .ok (.areturn, 1)) (hr : mtR y = some (.object n)) : Vf y sp e pc ls [.null] S Q = Q (some .null) S := o_t ⟨rfl, n, hr⟩ (Vf.rt ((stp_of hd).trans rfl))
theorem o_vret (hd : decode (mtC y) pc = .ok (.return_, 1)) (hr : mtR y = none) : Vf y sp e pc ls [] S Q = Q none S := o_t ⟨rfl, hr⟩ (Vf.rt ((stp_of hd).trans rfl))
/-- what a call asks, and goes on with -/
def cl_ (sp : Nat → Sp) (e : En) (z : Nat) (av : List Value) (S : MS) : Prop := (sp z av S).1 ∧ S.1 ≤ (sp z av S).2.2.1 ∧ S.2.1 ≤ (sp z av S).2.2.2.1 ∧ (sp z av S).2.2.1 ≤ e.1.1 ∧ (sp z av S).2.2.2.1 ≤ e.1.2
theorem o_call {z n : Nat} {q : Prop} {av : List Value} {st0 : List Value} {i : Instr} (hd : decode (mtC y) pc = .ok (i, 3)) (h : ins y sp e i 3 pc ls st S = i_cal y z sp e n q (pc + 3) ls st S) (hz : z < 100 ∧ 2 ≤ z ∧ mtD z < mtD y) (hn : n ≤ st.length) (ha : (st.take n).reverse = av) (hs : st.drop n = st0) : Vf y sp e pc ls st S Q = ((q ∧ sd8 st0 ∧ cl_ sp e z av S) ∧ Vf y sp e (pc + 3) ls ((sp z av S).2.1.toList ++ st0) (sp z av S).2.2 Q) := by
  subst ha; subst hs
  rw [o_nx hd (h.trans rfl)]
  apply propext
  constructor
  · rintro ⟨⟨g1, -, -, -, -, g2, g3⟩, g4⟩
    exact ⟨⟨g1, g2, g3⟩, g4⟩
  · rintro ⟨⟨g1, g2, g3⟩, g4⟩
    exact ⟨⟨g1, hz.1, hz.2.1, hz.2.2, hn, g2, g3⟩, g4⟩
theorem o_inv {ix z n : Nat} {av st0 : List Value} (hd : decode (mtC y) pc = .ok (.invokevirtual ix, 3)) (hm : ML (mtO y) ix = some z) (hz : (z < 100 ∧ 2 ≤ z ∧ mtD z < mtD y) ∧ mtS z = false ∧ (mtN z).name ≠ "<init>" ∧ mtA z + 1 = n) (hn : n ≤ st.length) (ha : (st.take n).reverse = av) (hs : st.drop n = st0) : Vf y sp e pc ls st S Q = ((isO S (mtO z) (lget st (mtA z)) ∧ sd8 st0 ∧ cl_ sp e z av S) ∧ Vf y sp e (pc + 3) ls ((sp z av S).2.1.toList ++ st0) (sp z av S).2.2 Q) := by
  obtain ⟨hz, g1, g2, g3⟩ := hz
  subst g3
  rw [o_call (q := 3 = 3 ∧ mtS z = false ∧ (mtN z).name ≠ "<init>" ∧ isO S (mtO z) (lget st (mtA z))) (z := z) (n := mtA z + 1) hd ?_ hz hn ha hs]
  · simp [g1, g2]
  · show i_inv y ix sp e _ _ ls st S = _
    unfold i_inv
    rw [hm]
theorem o_ivs {ix z n : Nat} {av st0 : List Value} (hd : decode (mtC y) pc = .ok (.invokestatic ix, 3)) (hm : ML (mtO y) ix = some z) (hz : (z < 100 ∧ 2 ≤ z ∧ mtD z < mtD y) ∧ mtS z = true ∧ mtA z = n) (hn : n ≤ st.length) (ha : (st.take n).reverse = av) (hs : st.drop n = st0) : Vf y sp e pc ls st S Q = ((sd8 st0 ∧ cl_ sp e z av S) ∧ Vf y sp e (pc + 3) ls ((sp z av S).2.1.toList ++ st0) (sp z av S).2.2 Q) := by
  obtain ⟨hz, g1, g3⟩ := hz
  subst g3
  rw [o_call (q := 3 = 3 ∧ mtS z = true) (z := z) (n := mtA z) hd ?_ hz hn ha hs]
  · simp [g1]
  · show i_ivs y ix sp e _ _ ls st S = _
    unfold i_ivs
    rw [hm]
    simp only
    rw [if_neg (by omega), if_neg (by omega), if_neg (by omega)]
theorem o_ivp {ix z n : Nat} {av st0 : List Value} (hd : decode (mtC y) pc = .ok (.invokespecial ix, 3)) (hm : ML (mtO y) ix = some z) (hz : (z < 100 ∧ 2 ≤ z ∧ mtD z < mtD y) ∧ mtS z = false ∧ (mtN z).name = "<init>" ∧ mtR z = none ∧ mtA z + 1 = n) (hn : n ≤ st.length) (ha : (st.take n).reverse = av) (hs : st.drop n = st0) : Vf y sp e pc ls st S Q = ((isO S (mtO z) (lget st (mtA z)) ∧ sd8 st0 ∧ cl_ sp e z av S) ∧ Vf y sp e (pc + 3) ls ((sp z av S).2.1.toList ++ st0) (sp z av S).2.2 Q) := by
  obtain ⟨hz, g1, g2, g3, g4⟩ := hz
  subst g4
  rw [o_call (q := 3 = 3 ∧ mtS z = false ∧ (mtN z).name = "<init>" ∧ mtR z = none ∧ isO S (mtO z) (lget st (mtA z))) (z := z) (n := mtA z + 1) hd ?_ hz hn ha hs]
  · simp [g1, g2, g3]
  · show i_ivp y ix sp e _ _ ls st S = _
    unfold i_ivp
    rw [hm]
    simp only
    rw [if_neg (by omega)]
theorem o_objinit {ix a : Nat} (hd : decode (mtC y) pc = .ok (.invokespecial ix, 3)) (hm : ML (mtO y) ix = some 901) (hz : 0 < mtD y) : Vf y sp e pc ls [.ref a] S Q = Vf y sp e (pc + 3) ls [] S Q := by
  refine o_t (p := (3 = 3 ∧ ([] : List Value) = [] ∧ 0 < mtD y)) ⟨rfl, rfl, hz⟩ (o_nx hd ?_)
  show i_ivp y ix sp e _ _ ls _ S = _
  unfold i_ivp
  rw [hm]
  rfl
theorem o_max {ix : Nat} {a b : Int32} (hd : decode (mtC y) pc = .ok (.invokestatic ix, 3)) (hm : ML (mtO y) ix = some 0) (hz : 0 < mtD y) : Vf y sp e pc ls (.int b :: .int a :: st) S Q = ((sd8 st ∧ S.1 ≤ e.1.1 ∧ S.2.1 ≤ e.1.2) ∧ Vf y sp e (pc + 3) ls (.int (if a < b then b else a) :: st) S Q) := by
  have e1 : ins y sp e (.invokestatic ix) 3 pc ls (.int b :: .int a :: st) S = nx ((3 = 3 ∧ 0 < mtD y ∧ sd8 st ∧ S.1 ≤ e.1.1 ∧ S.2.1 ≤ e.1.2) ∧ True) (pc + 3) ls (.int (if a < b then b else a) :: st) S := by
    show i_ivs y ix sp e _ _ ls _ S = _
    unfold i_ivs
    rw [hm]
    rfl
  rw [o_nx hd e1]
  simp [hz]
theorem o_min {ix : Nat} {a b : Int32} (hd : decode (mtC y) pc = .ok (.invokestatic ix, 3)) (hm : ML (mtO y) ix = some 1) (hz : 0 < mtD y) : Vf y sp e pc ls (.int b :: .int a :: st) S Q = ((sd8 st ∧ S.1 ≤ e.1.1 ∧ S.2.1 ≤ e.1.2) ∧ Vf y sp e (pc + 3) ls (.int (if b < a then b else a) :: st) S Q) := by
  have e1 : ins y sp e (.invokestatic ix) 3 pc ls (.int b :: .int a :: st) S = nx ((3 = 3 ∧ 0 < mtD y ∧ sd8 st ∧ S.1 ≤ e.1.1 ∧ S.2.1 ≤ e.1.2) ∧ True) (pc + 3) ls (.int (if b < a then b else a) :: st) S := by
    show i_ivs y ix sp e _ _ ls _ S = _
    unfold i_ivs
    rw [hm]
    rfl
  rw [o_nx hd e1]
  simp [hz]
theorem o_cpy {ix a b : Nat} {n dp sq : Int32} (hd : decode (mtC y) pc = .ok (.invokestatic ix, 3)) (hm : ML (mtO y) ix = some 900) (hz : 0 < mtD y) : Vf y sp e pc ls [.int n, .int dp, .ref b, .int sq, .ref a] S Q = ((ari S a 7 ∧ ari S b 7 ∧ ¬ sq < 0 ∧ ¬ dp < 0 ∧ ¬ n < 0 ∧ sq.toNatClampNeg + n.toNatClampNeg ≤ (S.2.2.1 a).2 ∧ dp.toNatClampNeg + n.toNatClampNeg ≤ (S.2.2.1 b).2) ∧ Vf y sp e (pc + 3) ls [] (svCpy S a sq.toNatClampNeg b dp.toNatClampNeg n.toNatClampNeg) Q) := by
  have e1 : ins y sp e (.invokestatic ix) 3 pc ls [.int n, .int dp, .ref b, .int sq, .ref a] S = nx ((3 = 3 ∧ 0 < mtD y) ∧ ([] : List Value) = [] ∧ ari S a 7 ∧ ari S b 7 ∧ ¬ sq < 0 ∧ ¬ dp < 0 ∧ ¬ n < 0 ∧ sq.toNatClampNeg + n.toNatClampNeg ≤ (S.2.2.1 a).2 ∧ dp.toNatClampNeg + n.toNatClampNeg ≤ (S.2.2.1 b).2) (pc + 3) ls [] (svCpy S a sq.toNatClampNeg b dp.toNatClampNeg n.toNatClampNeg) := by
    show i_ivs y ix sp e _ _ ls _ S = _
    unfold i_ivs
    rw [hm]
    rfl
  rw [o_nx hd e1]
  simp [hz]
theorem o_iadd {a b : Int32} (hd : decode (mtC y) pc = .ok (.iadd, 1)) : Vf y sp e pc ls (.int b :: .int a :: st) S Q = Vf y sp e (pc + 1) ls (.int (a + b) :: st) S Q := o_bin (f := fun a b => .int (a + b)) hd rfl
theorem o_isub {a b : Int32} (hd : decode (mtC y) pc = .ok (.isub, 1)) : Vf y sp e pc ls (.int b :: .int a :: st) S Q = Vf y sp e (pc + 1) ls (.int (a - b) :: st) S Q := o_bin (f := fun a b => .int (a - b)) hd rfl
theorem o_imul {a b : Int32} (hd : decode (mtC y) pc = .ok (.imul, 1)) : Vf y sp e pc ls (.int b :: .int a :: st) S Q = Vf y sp e (pc + 1) ls (.int (a * b) :: st) S Q := o_bin (f := fun a b => .int (a * b)) hd rfl
theorem o_iand {a b : Int32} (hd : decode (mtC y) pc = .ok (.iand, 1)) : Vf y sp e pc ls (.int b :: .int a :: st) S Q = Vf y sp e (pc + 1) ls (.int (a &&& b) :: st) S Q := o_bin (f := fun a b => .int (a &&& b)) hd rfl
theorem o_ior {a b : Int32} (hd : decode (mtC y) pc = .ok (.ior, 1)) : Vf y sp e pc ls (.int b :: .int a :: st) S Q = Vf y sp e (pc + 1) ls (.int (a ||| b) :: st) S Q := o_bin (f := fun a b => .int (a ||| b)) hd rfl
theorem o_ixor {a b : Int32} (hd : decode (mtC y) pc = .ok (.ixor, 1)) : Vf y sp e pc ls (.int b :: .int a :: st) S Q = Vf y sp e (pc + 1) ls (.int (a ^^^ b) :: st) S Q := o_bin (f := fun a b => .int (a ^^^ b)) hd rfl
theorem o_ishl {a b : Int32} (hd : decode (mtC y) pc = .ok (.ishl, 1)) : Vf y sp e pc ls (.int b :: .int a :: st) S Q = Vf y sp e (pc + 1) ls (.int (a <<< (b &&& 31)) :: st) S Q := o_bin (f := fun a b => .int (a <<< (b &&& 31))) hd rfl
theorem o_ishr {a b : Int32} (hd : decode (mtC y) pc = .ok (.ishr, 1)) : Vf y sp e pc ls (.int b :: .int a :: st) S Q = Vf y sp e (pc + 1) ls (.int (a >>> (b &&& 31)) :: st) S Q := o_bin (f := fun a b => .int (a >>> (b &&& 31))) hd rfl
theorem o_iushr {a b : Int32} (hd : decode (mtC y) pc = .ok (.iushr, 1)) : Vf y sp e pc ls (.int b :: .int a :: st) S Q = Vf y sp e (pc + 1) ls (.int (a.toUInt32 >>> (b.toUInt32 &&& Int32.toUInt32 31)).toInt32 :: st) S Q := o_bin (f := fun a b => .int (a.toUInt32 >>> (b.toUInt32 &&& Int32.toUInt32 31)).toInt32) hd rfl
theorem o_ineg {a : Int32} (hd : decode (mtC y) pc = .ok (.ineg, 1)) : Vf y sp e pc ls (.int a :: st) S Q = Vf y sp e (pc + 1) ls (.int (-a) :: st) S Q := o_un (f := fun a => .int (-a)) hd rfl
theorem o_i2c {a : Int32} (hd : decode (mtC y) pc = .ok (.i2c, 1)) : Vf y sp e pc ls (.int a :: st) S Q = Vf y sp e (pc + 1) ls (.int (a.toUInt32 % 65536).toInt32 :: st) S Q := o_un (f := fun a => .int (a.toUInt32 % 65536).toInt32) hd rfl
theorem o_i2d {a : Int32} (hd : decode (mtC y) pc = .ok (.i2d, 1)) : Vf y sp e pc ls (.int a :: st) S Q = Vf y sp e (pc + 1) ls (.double (FP.i2d a) :: st) S Q := o_un (f := fun a => .double (FP.i2d a)) hd rfl
end OPS
