/-! every instruction; whole runs; a method's contract out of its run -/
section WHOLE
variable {p : Program} {l : Launch} {e : Env} {R : Room} {s : State} {m : MethodId} {args : Array Value} {below : List Frame} {meth : Method} {c : Code} {Q : State → Prop} {P : PR} {y n0 s0 : Nat} {en : En} {pc : Nat} {ls st : List Value} {S : MS}
theorem sd_ret {q : Prop} (hd : q → decode (mtC y) pc = .ok (.ireturn, 1)) : SND p l e R s m args below meth c Q P y n0 s0 pc ls st S (i_ret y q st S) := by
  unfold i_ret
  split
  · exact SND.rt fun hq hk H locs als hP hS hl => hk pc .ireturn H locs als (hd hq.1) ⟨rfl, hq.2⟩ hP hS
  · exact SND.no
theorem sd_drt {q : Prop} (hd : q → decode (mtC y) pc = .ok (.dreturn, 1)) : SND p l e R s m args below meth c Q P y n0 s0 pc ls st S (i_drt y q st S) := by
  unfold i_drt
  split
  · exact SND.rt fun hq hk H locs als hP hS hl => hk pc .dreturn H locs als (hd hq.1) ⟨rfl, hq.2⟩ hP hS
  · exact SND.no
theorem sd_art {q : Prop} (hd : q → decode (mtC y) pc = .ok (.areturn, 1)) : SND p l e R s m args below meth c Q P y n0 s0 pc ls st S (i_art y q st S) := by
  unfold i_art
  split
  · exact SND.rt fun hq hk H locs als hP hS hl => hk pc .areturn H locs als (hd hq.1) ⟨rfl, hq.2⟩ hP hS
  · exact SND.rt fun hq hk H locs als hP hS hl => hk pc .areturn H locs als (hd hq.1) ⟨rfl, hq.2⟩ hP hS
  · exact SND.no
theorem sd_vrt {q : Prop} (hd : q → decode (mtC y) pc = .ok (.return_, 1)) : SND p l e R s m args below meth c Q P y n0 s0 pc ls st S (i_vrt y q st S) := by
  unfold i_vrt
  split
  · exact SND.rt fun hq hk H locs als hP hS hl => hk pc .return_ H locs als (hd hq.1) ⟨rfl, hq.2⟩ hP hS
  · exact SND.no
theorem sd_dup {q : Prop} (C : Cx p R s m args meth c P y n0 s0 en) (hd : q → decode (mtC y) pc = .ok (.dup, 1)) : SND p l e R s m args below meth c Q P y n0 s0 pc ls st S (i_dup q (pc + 1) ls st S) := by
  unfold i_dup
  split
  · exact SND.same fun hq hk H locs als hP hS hl => lv_dup C.1 C.2.1 (hd hq.1) ((tr_cat P _).trans hq.2) (hk H locs als hP hS hl)
  · exact SND.no
theorem sd_dup2 {q : Prop} (C : Cx p R s m args meth c P y n0 s0 en) (hd : q → decode (mtC y) pc = .ok (.dup2, 1)) : SND p l e R s m args below meth c Q P y n0 s0 pc ls st S (i_dup2 q (pc + 1) ls st S) := by
  unfold i_dup2
  split
  · exact SND.same fun hq hk H locs als hP hS hl => lv_dup2_11 C.1 C.2.1 (hd hq.1) ((tr_cat P _).trans hq.2.1) ((tr_cat P _).trans hq.2.2) (hk H locs als hP hS hl)
  · exact SND.no
theorem sd_pop {q : Prop} (C : Cx p R s m args meth c P y n0 s0 en) (hd : q → decode (mtC y) pc = .ok (.pop, 1)) : SND p l e R s m args below meth c Q P y n0 s0 pc ls st S (i_pop q (pc + 1) ls st S) := by
  unfold i_pop
  split
  · exact SND.same fun hq hk H locs als hP hS hl => lv_pop C.1 C.2.1 (hd hq.1) ((tr_cat P _).trans hq.2) (hk H locs als hP hS hl)
  · exact SND.no
theorem sd_ddv {q : Prop} (C : Cx p R s m args meth c P y n0 s0 en) (hd : q → decode (mtC y) pc = .ok (.ddiv, 1)) : SND p l e R s m args below meth c Q P y n0 s0 pc ls st S (i_ddv q (pc + 1) ls st S) := by
  unfold i_ddv
  split
  · exact SND.same fun hq hk H locs als hP hS hl => lv_ddiv C.1 C.2.1 (hd hq.1) hq.2 (hk H locs als hP hS hl)
  · exact SND.no
theorem sd_dcm {op : CmpOp} {q : Prop} (C : Cx p R s m args meth c P y n0 s0 en) (hd : q → decode (mtC y) pc = .ok (.dcmp op, 1)) : SND p l e R s m args below meth c Q P y n0 s0 pc ls st S (i_dcm op q (pc + 1) ls st S) := by
  unfold i_dcm
  split
  · exact SND.same fun hq hk H locs als hP hS hl => lv_dcmp C.1 C.2.1 (hd hq) (hk H locs als hP hS hl)
  · exact SND.no
theorem sd_ldc {ix : Nat} {q : Prop} {pc1 : Nat} (C : Cx p R s m args meth c P y n0 s0 en) (row : ∀ {H : Heap} {locs : List Loc} {cells slots : Nat} {als : Array Slot} {r : List Value} {v : Int32}, q → (Jvm.Cond.constant (cn (mtO y)) ix v).before args s = true → W p l e R s m args below meth c H locs cells slots Q (F0 m pc1 als (.int v :: r)) → W p l e R s m args below meth c H locs cells slots Q (F0 m pc als r)) : SND p l e R s m args below meth c Q P y n0 s0 pc ls st S (i_ldc y ix q pc1 ls st S) := by
  unfold i_ldc
  split
  · rename_i v hv
    exact SND.same fun hq hk H locs als hP hS hl => row hq (C.2.2.2.2.1 _ (CL_spec hv)) (hk H locs als hP hS hl)
  · exact SND.no
theorem sd_nul {off : Int} {q : Prop} (C : Cx p R s m args meth c P y n0 s0 en) (hd : q → decode (mtC y) pc = .ok (.ifnull off, 3)) : SND p l e R s m args below meth c Q P y n0 s0 pc ls st S (i_nul off q pc ls st S) := by
  unfold i_nul
  split
  · exact SND.same fun hq hk H locs als hP hS hl => lv_ifnull C.1 C.2.1 (hd hq) (hk H locs als hP hS hl)
  · exact SND.same fun hq hk H locs als hP hS hl => lv_ifnullN C.1 C.2.1 (hd hq.1) (tg_eq hq.2) (hk H locs als hP hS hl)
  · exact SND.no
theorem sd_nnl {off : Int} {q : Prop} (C : Cx p R s m args meth c P y n0 s0 en) (hd : q → decode (mtC y) pc = .ok (.ifnonnull off, 3)) : SND p l e R s m args below meth c Q P y n0 s0 pc ls st S (i_nnl off q pc ls st S) := by
  unfold i_nnl
  split
  · exact SND.same fun hq hk H locs als hP hS hl => lv_ifnonnullN C.1 C.2.1 (hd hq) (hk H locs als hP hS hl)
  · exact SND.same fun hq hk H locs als hP hS hl => lv_ifnonnull C.1 C.2.1 (hd hq.1) (tg_eq hq.2) (hk H locs als hP hS hl)
  · exact SND.no
theorem sd_tsw {d lo hi : Int} {offs : Array Int} {len : Nat} (C : Cx p R s m args meth c P y n0 s0 en) (hd : decode (mtC y) pc = .ok (.tableswitch d lo hi offs, len)) : SND p l e R s m args below meth c Q P y n0 s0 pc ls st S (i_tsw d lo hi offs pc ls st S) := by
  unfold i_tsw
  split
  · rename_i x r
    refine SND.same fun hq hk H locs als hP hS hl => ?_
    have hk' := hk H locs als hP hS hl
    have ht := tg_eq hq.1
    by_cases h : x.toInt < lo ∨ hi < x.toInt
    · have e : tsw pc x d lo hi offs = d := by unfold tsw; rw [if_pos h]
      rw [e] at ht hk'
      exact lv_tableOut C.1 C.2.1 hd h ht hk'
    · have e : tsw pc x d lo hi offs = offs.getD (x.toInt - lo).toNat 0 := by unfold tsw; rw [if_neg h]
      have hlt := hq.2 h
      have e2 : offs[(x.toInt - lo).toNat]? = some (tsw pc x d lo hi offs) := by
        rw [e, Array.getD_eq_getD_getElem?]
        simp [hlt]
      exact lv_tableIn C.1 C.2.1 hd (fun z => h (Or.inl z)) (fun z => h (Or.inr z)) e2 ht hk'
  · exact SND.no
theorem sd_lsw {d : Int} {ps : Array (Int × Int)} {len : Nat} (C : Cx p R s m args meth c P y n0 s0 en) (hd : decode (mtC y) pc = .ok (.lookupswitch d ps, len)) : SND p l e R s m args below meth c Q P y n0 s0 pc ls st S (i_lsw d ps pc ls st S) := by
  unfold i_lsw
  split
  · exact SND.same fun hq hk H locs als hP hS hl => lv_lookup C.1 C.2.1 hd hq.2 rfl (tg_eq hq.1) (hk H locs als hP hS hl)
  · exact SND.no
theorem sd_mmx {ix : Nat} {q : Prop} (C : Cx p R s m args meth c P y n0 s0 en) (hml0 : ML (mtO y) ix = some 0) (hd : q → decode (mtC y) pc = .ok (.invokestatic ix, 3)) : SND p l e R s m args below meth c Q P y n0 s0 pc ls st S (i_bin (fun a b => .int (if a < b then b else a)) (fun _ _ => True) (q ∧ 0 < mtD y ∧ sd8 (st.drop 2) ∧ S.1 ≤ en.1.1 ∧ S.2.1 ≤ en.1.2) (pc + 3) ls st S) := by
  unfold i_bin
  split
  · rename_i b a r
    refine SND.nx fun hq hn hs => ⟨hn, hs, fun hk H locs als hP hS hl => ?_⟩
    obtain ⟨⟨hq1, hq2, hq3, hq4, hq5⟩, -⟩ := hq
    obtain ⟨g1, g2, g3, g4⟩ := mmx_ok
    rcases ML_spec hml0 with hlk | hlk
    · exact absurd hlk.1 (by decide)
    · rw [if_neg (by decide), if_neg (by decide), g4] at hlk
      obtain ⟨hx, hb, hml, hown, hts, hK, hSt, hname, hf, hlo, hz, hrc, hrs⟩ := C
      exact va_mmax hx hb (by rw [hml, hl.2.1]) hown (hts _ hlk) (hts _ (lwg_in g2 rfl)) (hts _ (lwg_in g3 rfl)) (hts _ (lwg_in g1 rfl)) (by omega) (by rw [cat_map]; have h8 : (r.map Value.category).sum ≤ 8 := hq3; omega) (by omega) (by omega) (hd hq1) (hk H locs als hP hS hl)
  · exact SND.no
theorem sd_mmn {ix : Nat} {q : Prop} (C : Cx p R s m args meth c P y n0 s0 en) (hml0 : ML (mtO y) ix = some 1) (hd : q → decode (mtC y) pc = .ok (.invokestatic ix, 3)) : SND p l e R s m args below meth c Q P y n0 s0 pc ls st S (i_bin (fun a b => .int (if b < a then b else a)) (fun _ _ => True) (q ∧ 0 < mtD y ∧ sd8 (st.drop 2) ∧ S.1 ≤ en.1.1 ∧ S.2.1 ≤ en.1.2) (pc + 3) ls st S) := by
  unfold i_bin
  split
  · rename_i b a r
    refine SND.nx fun hq hn hs => ⟨hn, hs, fun hk H locs als hP hS hl => ?_⟩
    obtain ⟨⟨hq1, hq2, hq3, hq4, hq5⟩, -⟩ := hq
    obtain ⟨g1, g2, g3, g4⟩ := mmn_ok
    rcases ML_spec hml0 with hlk | hlk
    · exact absurd hlk.1 (by decide)
    · rw [if_neg (by decide), if_neg (by decide), g4] at hlk
      obtain ⟨hx, hb, hml, hown, hts, hK, hSt, hname, hf, hlo, hz, hrc, hrs⟩ := C
      exact va_mmin hx hb (by rw [hml, hl.2.1]) hown (hts _ hlk) (hts _ (lwg_in g2 rfl)) (hts _ (lwg_in g3 rfl)) (hts _ (lwg_in g1 rfl)) (by omega) (by rw [cat_map]; have h8 : (r.map Value.category).sum ≤ 8 := hq3; omega) (by omega) (by omega) (hd hq1) (hk H locs als hP hS hl)
  · exact SND.no
theorem sd_ivs {ix : Nat} {q : Prop} {sp : Nat → Sp} (C : Cx p R s m args meth c P y n0 s0 en) (hsp : ∀ z, SpecAt en.2 z (sp z)) (hd : q → decode (mtC y) pc = .ok (.invokestatic ix, 3)) : SND p l e R s m args below meth c Q P y n0 s0 pc ls st S (i_ivs y ix sp en q (pc + 3) ls st S) := by
  unfold i_ivs
  split
  · rename_i z hml0
    split
    · rename_i h
      subst h
      exact sd_cpy C hml0 (fun hq => ⟨hd hq.1, hq.2⟩)
    · split
      · rename_i h
        subst h
        exact sd_mmx C hml0 hd
      · split
        · rename_i h
          subst h
          exact sd_mmn C hml0 hd
        · exact sd_cals C hsp hml0 (fun hq => ⟨hd hq.1, hq.2⟩)
  · exact SND.no
theorem sd_ivp {ix : Nat} {q : Prop} {sp : Nat → Sp} (C : Cx p R s m args meth c P y n0 s0 en) (hsp : ∀ z, SpecAt en.2 z (sp z)) (hd : q → decode (mtC y) pc = .ok (.invokespecial ix, 3)) : SND p l e R s m args below meth c Q P y n0 s0 pc ls st S (i_ivp y ix sp en q (pc + 3) ls st S) := by
  unfold i_ivp
  split
  · rename_i z hml0
    split
    · rename_i h
      subst h
      split
      · rename_i a r
        refine SND.same fun hq hk H locs als hP hS hl => ?_
        obtain ⟨hq0, hr, hq2⟩ := hq
        subst hr
        rcases ML_spec hml0 with hlk | hlk
        · exact absurd hlk.1 (by decide)
        · rw [if_neg (by decide), if_pos rfl] at hlk
          obtain ⟨hx, hb, hml, hown, hts, hK, hSt, hname, hf, hlo, hz, hrc, hrs⟩ := C
          exact W.objInit hx hb hown (hts _ hlk) (hts _ obi_ok.1) (hts _ obi_ok.2) rfl (by rw [hml]; exact hl.2.1) rfl (hd hq0) (by omega) (by show 2 * 0 + 0 + 12 ≤ R.locals; omega) (hk H locs als hP hS hl)
      · exact SND.no
    · exact sd_calp C hsp hml0 hd
  · exact SND.no
theorem sd_ins {sp : Nat → Sp} {i : Instr} {len : Nat} (C : Cx p R s m args meth c P y n0 s0 en) (hsp : ∀ z, SpecAt en.2 z (sp z)) (hd : decode (mtC y) pc = .ok (i, len)) : SND p l e R s m args below meth c Q P y n0 s0 pc ls st S (ins y sp en i len pc ls st S) := by
  cases i with
  | iconst n => exact sd_psh rfl (fun hq k => lv_iconst C.1 C.2.1 (hq ▸ hd) rfl k)
  | bipush n => exact sd_psh rfl (fun hq k => lv_bipush C.1 C.2.1 (hq ▸ hd) rfl k)
  | sipush n => exact sd_psh rfl (fun hq k => lv_sipush C.1 C.2.1 (hq ▸ hd) rfl k)
  | ldc ix => exact sd_ldc C (fun hq hc k => lv_ldc C.1 C.2.1 C.2.2.2.1 hc (hq ▸ hd) k)
  | ldc_w ix => exact sd_ldc C (fun hq hc k => lv_ldcw C.1 C.2.1 C.2.2.2.1 hc (hq ▸ hd) k)
  | aconst_null => exact sd_psh rfl (fun hq k => lv_null C.1 C.2.1 (hq ▸ hd) k)
  | dconst n => exact sd_psh rfl (fun hq k => by obtain ⟨h1, h2⟩ := hq; subst h1; subst h2; exact lv_dconst0 C.1 C.2.1 hd k)
  | iload_n k => exact sd_ild (fun x hq h kk => lv_iload_n C.1 C.2.1 (hq ▸ hd) rfl h kk)
  | iload k => exact sd_ild (fun x hq h kk => lv_iload C.1 C.2.1 (hq ▸ hd) h kk)
  | aload_n k => exact sd_ald (fun x hq h kk => lv_aload_n C.1 C.2.1 (hq ▸ hd) rfl h kk)
  | dload k => exact sd_dld (fun x hq h kk => lv_dload C.1 C.2.1 (hq ▸ hd) h kk)
  | istore_n k => exact sd_ist (fun x lv hq hv hk kk => lv_istore_n C.1 C.2.1 (hq ▸ hd) rfl hv hk rfl kk)
  | istore k => exact sd_ist (fun x lv hq hv hk kk => lv_istore C.1 C.2.1 (hq ▸ hd) hv hk rfl kk)
  | astore_n k => exact sd_ast (fun x lv hq hv hk kk => lv_astore_n C.1 C.2.1 (hq ▸ hd) rfl hv hk rfl kk)
  | dstore k => exact sd_dst (fun x lv hq hv hk kk => lv_dstore C.1 C.2.1 (hq ▸ hd) hv hk rfl kk)
  | iinc k n => exact sd_inc (fun x lv i hq hv hi hk kk => lv_iinc C.1 C.2.1 (hq ▸ hd) hv hi rfl hk rfl kk)
  | iadd => exact sd_bin (fun _ _ => rfl) (fun a b hp hq k => lv_iadd C.1 C.2.1 (hq ▸ hd) k)
  | isub => exact sd_bin (fun _ _ => rfl) (fun a b hp hq k => lv_isub C.1 C.2.1 (hq ▸ hd) k)
  | imul => exact sd_bin (fun _ _ => rfl) (fun a b hp hq k => lv_imul C.1 C.2.1 (hq ▸ hd) k)
  | iand => exact sd_bin (fun _ _ => rfl) (fun a b hp hq k => lv_iand C.1 C.2.1 (hq ▸ hd) k)
  | ior => exact sd_bin (fun _ _ => rfl) (fun a b hp hq k => lv_ior C.1 C.2.1 (hq ▸ hd) k)
  | ixor => exact sd_bin (fun _ _ => rfl) (fun a b hp hq k => lv_ixor C.1 C.2.1 (hq ▸ hd) k)
  | ishl => exact sd_bin (fun _ _ => rfl) (fun a b hp hq k => lv_ishl C.1 C.2.1 (hq ▸ hd) k)
  | ishr => exact sd_bin (fun _ _ => rfl) (fun a b hp hq k => lv_ishr C.1 C.2.1 (hq ▸ hd) k)
  | iushr => exact sd_bin (fun _ _ => rfl) (fun a b hp hq k => lv_iushr C.1 C.2.1 (hq ▸ hd) rfl k)
  | idiv => exact sd_bin (fun _ _ => rfl) (fun a b hp hq k => lv_idiv C.1 C.2.1 (hq ▸ hd) hp k)
  | irem => exact sd_bin (fun _ _ => rfl) (fun a b hp hq k => lv_irem C.1 C.2.1 (hq ▸ hd) hp k)
  | ineg => exact sd_un (fun _ => rfl) (fun a hq k => lv_ineg C.1 C.2.1 (hq ▸ hd) k)
  | i2c => exact sd_un (fun _ => rfl) (fun a hq k => lv_i2c C.1 C.2.1 (hq ▸ hd) rfl k)
  | i2d => exact sd_un (fun _ => rfl) (fun a hq k => lv_i2d C.1 C.2.1 (hq ▸ hd) k)
  | ddiv => exact sd_ddv C (fun hq => hq ▸ hd)
  | dcmp op => exact sd_dcm C (fun hq => hq ▸ hd)
  | dup => exact sd_dup C (fun hq => hq ▸ hd)
  | dup2 => exact sd_dup2 C (fun hq => hq ▸ hd)
  | pop => exact sd_pop C (fun hq => hq ▸ hd)
  | ifCond cd off =>
    cases cd with
    | eq => exact sd_if1 (fun a hq ht kt kf => lv_if_eq C.1 C.2.1 (hq ▸ hd) ht (fun h => kt ((cnd_eq _ _).mpr h)) (fun h => kf (fun z => h ((cnd_eq _ _).mp z))))
    | ne => exact sd_if1 (fun a hq ht kt kf => lv_if_ne C.1 C.2.1 (hq ▸ hd) ht (fun h => kt ((cnd_ne _ _).mpr h)) (fun h => kf (fun z => (cnd_ne _ _).mp z h)))
    | lt => exact sd_if1 (fun a hq ht kt kf => lv_if_lt C.1 C.2.1 (hq ▸ hd) ht (fun h => kt ((cnd_lt _ _).mpr h)) (fun h => kf (fun z => h ((cnd_lt _ _).mp z))))
    | ge => exact sd_if1 (fun a hq ht kt kf => lv_if_ge C.1 C.2.1 (hq ▸ hd) ht (fun h => kt ((cnd_ge _ _).mpr h)) (fun h => kf (fun z => h ((cnd_ge _ _).mp z))))
    | gt => exact sd_if1 (fun a hq ht kt kf => lv_if_gt C.1 C.2.1 (hq ▸ hd) ht (fun h => kt ((cnd_gt _ _).mpr h)) (fun h => kf (fun z => h ((cnd_gt _ _).mp z))))
    | le => exact sd_if1 (fun a hq ht kt kf => lv_if_le C.1 C.2.1 (hq ▸ hd) ht (fun h => kt ((cnd_le _ _).mpr h)) (fun h => kf (fun z => h ((cnd_le _ _).mp z))))
  | if_icmp cd off =>
    cases cd with
    | eq => exact sd_if2 (fun a b hq ht kt kf => lv_icmp_eq C.1 C.2.1 (hq ▸ hd) ht (fun h => kt ((cnd_eq _ _).mpr h)) (fun h => kf (fun z => h ((cnd_eq _ _).mp z))))
    | ne => exact sd_if2 (fun a b hq ht kt kf => lv_icmp_ne C.1 C.2.1 (hq ▸ hd) ht (fun h => kt ((cnd_ne _ _).mpr h)) (fun h => kf (fun z => (cnd_ne _ _).mp z h)))
    | lt => exact sd_if2 (fun a b hq ht kt kf => lv_icmp_lt C.1 C.2.1 (hq ▸ hd) ht (fun h => kt ((cnd_lt _ _).mpr h)) (fun h => kf (fun z => h ((cnd_lt _ _).mp z))))
    | ge => exact sd_if2 (fun a b hq ht kt kf => lv_icmp_ge C.1 C.2.1 (hq ▸ hd) ht (fun h => kt ((cnd_ge _ _).mpr h)) (fun h => kf (fun z => h ((cnd_ge _ _).mp z))))
    | gt => exact sd_if2 (fun a b hq ht kt kf => lv_icmp_gt C.1 C.2.1 (hq ▸ hd) ht (fun h => kt ((cnd_gt _ _).mpr h)) (fun h => kf (fun z => h ((cnd_gt _ _).mp z))))
    | le => exact sd_if2 (fun a b hq ht kt kf => lv_icmp_le C.1 C.2.1 (hq ▸ hd) ht (fun h => kt ((cnd_le _ _).mpr h)) (fun h => kf (fun z => h ((cnd_le _ _).mp z))))
  | ifnull off => exact sd_nul C (fun hq => hq ▸ hd)
  | ifnonnull off => exact sd_nnl C (fun hq => hq ▸ hd)
  | goto off => exact SND.same fun hq hk H locs als hP hS hl => lv_goto C.1 C.2.1 (hq.1 ▸ hd) (tg_eq hq.2) (hk H locs als hP hS hl)
  | tableswitch d lo hi offs => exact sd_tsw C hd
  | lookupswitch d ps => exact sd_lsw C hd
  | getfield ix => exact sd_get C (fun hq => hq ▸ hd)
  | putfield ix => exact sd_put C (fun hq => hq ▸ hd)
  | getstatic ix => exact sd_gst C (fun hq => hq ▸ hd)
  | arraylength => exact sd_len C (fun hq => hq ▸ hd)
  | iaload => exact sd_iald C (fun hq => hq ▸ hd)
  | caload => exact sd_cald C (fun hq => hq ▸ hd)
  | aaload => exact sd_aqd C (fun hq => hq ▸ hd)
  | iastore => exact sd_iast C (fun hq => hq ▸ hd)
  | castore => exact sd_cast C (fun hq => hq ▸ hd)
  | aastore => exact sd_aast C (fun hq => hq ▸ hd)
  | new ix => exact sd_new C (fun hq => hq ▸ hd)
  | newarray t => exact sd_nar C (fun hq => hq ▸ hd)
  | anewarray ix => exact sd_naq C (fun hq => hq ▸ hd)
  | invokevirtual ix => exact sd_inv C hsp (fun hq => hq ▸ hd)
  | invokestatic ix => exact sd_ivs C hsp (fun hq => hq ▸ hd)
  | invokespecial ix => exact sd_ivp C hsp (fun hq => hq ▸ hd)
  | ireturn => exact sd_ret (fun hq => hq ▸ hd)
  | dreturn => exact sd_drt (fun hq => hq ▸ hd)
  | areturn => exact sd_art (fun hq => hq ▸ hd)
  | return_ => exact sd_vrt (fun hq => hq ▸ hd)
  | _ => exact SND.no
theorem run_sound {sp : Nat → Sp} {RQ : Option Value → MS → Prop} (C : Cx p R s m args meth c P y n0 s0 en) (hsp : ∀ z, SpecAt en.2 z (sp z)) (hret : ∀ r S', RQ r S' → RW p l e R s m args below meth c Q P y n0 s0 r S') : ∀ (n pc : Nat) (ls st : List Value) (S : MS), n0 ≤ S.1 → s0 ≤ S.2.1 → run y sp en n pc ls st S RQ → Vw p l e R s m args below meth c Q P y n0 s0 pc ls st S := by
  intro n
  induction n with
  | zero => intro pc ls st S _ _ h; exact absurd h (by simp [run])
  | succ n ih =>
    intro pc ls st S hn hs h
    simp only [run] at h
    obtain ⟨h1, h2⟩ := h
    have hsnd : SND p l e R s m args below meth c Q P y n0 s0 pc ls st S (stp y sp en pc ls st S) := by
      unfold stp
      split
      · rename_i i len hd
        exact sd_ins C hsp hd
      · exact SND.no
    have h3 := hsnd h1 hn hs
    cases hc : (stp y sp en pc ls st S).2 with
    | inl k =>
      rw [hc] at h2 h3
      exact h3.2.2 (ih _ _ _ _ h3.1 h3.2.1 h2)
    | inr r =>
      rw [hc] at h2 h3
      exact h3 (hret _ _ h2)
end WHOLE
