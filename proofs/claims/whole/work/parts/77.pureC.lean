/-! PURE: acts: a hire begins -/
theorem bgH_at {w : HV} {k O q N : Nat} {m h s : Int32} (hk : k < 16) (hO : O < 10) (hq : q < 10) (e4 : w 8 4 = oN O) (e3 : w 8 3 = oN N) (es : spF w m 0 (w 8 2).toNatClampNeg (-5) = oN q) :
    bgH w (oN k) m h s 0 = w 0 ∧ bgH w (oN k) m h s 1 = w 1 ∧ (∀ t, bgH w (oN k) m h s 2 t = if t = k * 8 + 6 then w 2 (k * 8 + 6) + 1 else if t = k * 8 + 7 then oN N else if t = k * 8 + 0 then 1 else w 2 t) ∧
    (∀ t, bgH w (oN k) m h s 3 t = if t = q * 4 + 2 then oN N else w 3 t) ∧
    (∀ t, t < 18 → bgH w (oN k) m h s 4 t = if t % 3 = 0 then w 4 t + -(bit s (t / 3)) else if t % 3 = 1 then w 4 t + bit s (t / 3) else w 4 t) ∧
    (∀ t, bgH w (oN k) m h s 5 t = if t = O * 7 + 5 then 0 + w 2 (k * 8 + 4) * h else if t = O * 7 + 6 then oN N else if t = O * 7 + 4 then s else if t = O * 7 + 3 then h else if t = O * 7 + 2 then m else if t = O * 7 + 1 then oN q else if t = O * 7 + 0 then oN k else w 5 t) ∧
    bgH w (oN k) m h s 6 = w 6 ∧ bgH w (oN k) m h s 7 = w 7 ∧
    (∀ t, bgH w (oN k) m h s 8 t = if t = 6 then w 8 6 + w 2 (k * 8 + 4) * h else if t = 4 then oN (O + 1) else if t = 3 then oN (N + 1) else w 8 t) := by
  have e1 : bgH1 w (oN k) m h s = up2 (up2 (up2 (up2 (up2 (up2 (up2 w 5 (O * 7 + 0) (oN k)) 5 (O * 7 + 1) (oN q)) 5 (O * 7 + 2) m) 5 (O * 7 + 3) h) 5 (O * 7 + 4) s) 5 (O * 7 + 5) 0) 5 (O * 7 + 6) (oN N) := by
    unfold bgH1
    rw [e4, e3, es, pthr_0 hO, pthr_1 hO, pthr_2 hO, pthr_3 hO, pthr_4 hO, pthr_5 hO, pthr_6 hO]
  have f5 : ∀ t, bgH1 w (oN k) m h s 5 t = if t = O * 7 + 6 then oN N else if t = O * 7 + 5 then 0 else if t = O * 7 + 4 then s else if t = O * 7 + 3 then h else if t = O * 7 + 2 then m else if t = O * 7 + 1 then oN q else if t = O * 7 + 0 then oN k else w 5 t := by
    intro t
    rw [e1, u2k, u2k, u2k, u2k, u2k, u2k, u2k]
  have fk : ∀ j : Fin 9, j ≠ 5 → bgH1 w (oN k) m h s j = w j := by
    intro j hj
    rw [e1, up2_kn hj, up2_kn hj, up2_kn hj, up2_kn hj, up2_kn hj, up2_kn hj, up2_kn hj]
  have e2 : bgH2 w (oN k) m h s = up2 (up2 (up2 (up2 (up2 (up2 (bgH1 w (oN k) m h s) 8 3 (oN (N + 1))) 8 4 (oN (O + 1))) 2 (k * 8 + 0) 1) 2 (k * 8 + 7) (oN N)) 2 (k * 8 + 6) (w 2 (k * 8 + 6) + 1)) 3 (q * 4 + 2) (oN N) := by
    unfold bgH2
    rw [e4, e3, es, ptkt_0 hk, ptkt_7 hk, pakt_6 hk, ptsl_2 hq, oN_succ, oN_succ]
    rw [u2k, if_neg (show ¬ k * 8 + 6 = k * 8 + 7 by omega), u2k, if_neg (show ¬ k * 8 + 6 = k * 8 + 0 by omega), u2n (show (2 : Fin 9) ≠ 8 by decide), u2n (show (2 : Fin 9) ≠ 8 by decide), fk 2 (by decide)]
  have g2 : ∀ t, bgH2 w (oN k) m h s 2 t = if t = k * 8 + 6 then w 2 (k * 8 + 6) + 1 else if t = k * 8 + 7 then oN N else if t = k * 8 + 0 then 1 else w 2 t := by
    intro t
    rw [e2, u2n (by decide), u2k, u2k, u2k, u2n (by decide), u2n (by decide), fk 2 (by decide)]
  have g3 : ∀ t, bgH2 w (oN k) m h s 3 t = if t = q * 4 + 2 then oN N else w 3 t := by
    intro t
    rw [e2, u2k, u2n (by decide), u2n (by decide), u2n (by decide), u2n (by decide), u2n (by decide), fk 3 (by decide)]
  have g8 : ∀ t, bgH2 w (oN k) m h s 8 t = if t = 4 then oN (O + 1) else if t = 3 then oN (N + 1) else w 8 t := by
    intro t
    rw [e2, u2n (by decide), u2n (by decide), u2n (by decide), u2n (by decide), u2k, u2k, fk 8 (by decide)]
  have gk : ∀ j : Fin 9, j ≠ 2 → j ≠ 3 → j ≠ 8 → bgH2 w (oN k) m h s j = bgH1 w (oN k) m h s j := by
    intro j h1 h2 h3
    rw [e2, up2_kn h2, up2_kn h1, up2_kn h1, up2_kn h1, up2_kn h3, up2_kn h3]
  have i4 : ∀ j : Fin 9, j ≠ 4 → bgH3 w (oN k) m h s j = bgH2 w (oN k) m h s j := fun j hj => mvT_o hj
  have eP : bgP w (oN k) m h s = w 2 (k * 8 + 4) * h := by
    unfold bgP
    rw [e4, hr_0 hO, hr_3 hO, i4 5 (by decide), gk 5 (by decide) (by decide) (by decide), f5, f5]
    rw [if_neg (by omega), if_neg (by omega), if_neg (by omega), if_neg (by omega), if_neg (by omega), if_neg (by omega), if_pos rfl, if_neg (by omega), if_neg (by omega), if_neg (by omega), if_pos rfl]
    rw [kt_4 hk, i4 2 (by decide), g2, if_neg (by omega), if_neg (by omega), if_neg (by omega)]
  have eB : bgH w (oN k) m h s = up2 (up2 (bgH3 w (oN k) m h s) 5 (O * 7 + 5) (0 + w 2 (k * 8 + 4) * h)) 8 6 (w 8 6 + w 2 (k * 8 + 4) * h) := by
    unfold bgH
    rw [eP, e4, pahr_5 hO, i4 5 (by decide), gk 5 (by decide) (by decide) (by decide), f5, if_neg (by omega), if_pos rfl]
  have jk : ∀ j : Fin 9, j ≠ 5 → j ≠ 8 → bgH w (oN k) m h s j = bgH3 w (oN k) m h s j := by
    intro j h1 h2
    rw [eB, up2_kn h2, up2_kn h1]
  refine ⟨?_, ?_, ?_, ?_, ?_, ?_, ?_, ?_, ?_⟩
  · rw [jk 0 (by decide) (by decide), i4 0 (by decide), gk 0 (by decide) (by decide) (by decide), fk 0 (by decide)]
  · rw [jk 1 (by decide) (by decide), i4 1 (by decide), gk 1 (by decide) (by decide) (by decide), fk 1 (by decide)]
  · intro t; rw [jk 2 (by decide) (by decide), i4 2 (by decide), g2]
  · intro t; rw [jk 3 (by decide) (by decide), i4 3 (by decide), g3]
  · intro t ht
    rw [jk 4 (by decide) (by decide)]
    have hm := mvT_at (w := bgH2 w (oN k) m h s) (s := s) (a := 0) (b := 1) (by decide) (by decide) (by decide) 6 (by decide) t
    rw [if_pos (show t < 3 * 6 by omega), gk 4 (by decide) (by decide) (by decide), fk 4 (by decide)] at hm
    exact hm
  · intro t
    rw [eB, u2n (by decide), u2k, i4 5 (by decide), gk 5 (by decide) (by decide) (by decide), f5]
    by_cases z : t = O * 7 + 5
    · rw [if_pos z, if_pos z]
    · rw [if_neg z, if_neg z, if_neg z]
  · rw [jk 6 (by decide) (by decide), i4 6 (by decide), gk 6 (by decide) (by decide) (by decide), fk 6 (by decide)]
  · rw [jk 7 (by decide) (by decide), i4 7 (by decide), gk 7 (by decide) (by decide) (by decide), fk 7 (by decide)]
  · intro t
    rw [eB, u2k, u2n (by decide), i4 8 (by decide), g8]
theorem hl_bit (t : Int32) (c : Nat) : (if bit t c = 1 then (1 : Int32) else 0) = bit t c := by
  rcases bit_01 t c with h | h
  · rw [h, if_neg (by decide)]
  · rw [h, if_pos rfl]
theorem hlb_at {v : HV} {t : Int32} {c : Nat} (hc : c < 6) (u : Nat) : hlb v t c 1 u = if u = 1169 + 3 * c + 1 then v 1 u + bit t c else if u = 1169 + 3 * c + 0 then v 1 u - bit t c else v 1 u := by
  unfold hlb hla
  rw [hl_bit, adT_0 (by omega), adT_1 (by omega), inc1, dcr1, dcr1, if_neg (show ¬ 1169 + 3 * c + 1 = 1169 + 3 * c + 0 by omega)]
  by_cases z : u = 1169 + 3 * c + 1
  · rw [if_pos z, if_pos z, z]
  · rw [if_neg z, if_neg z]
    by_cases y : u = 1169 + 3 * c + 0
    · rw [if_pos y, if_pos y, y]
    · rw [if_neg y, if_neg y]
theorem hlF_at {t : Int32} : ∀ (n c : Nat) (v : HV) (u : Nat), c + n ≤ 6 → hlF t c n v 1 u = if 1169 + 3 * c ≤ u ∧ u < 1169 + 3 * (c + n) then (if (u - 1169) % 3 = 0 then v 1 u - bit t ((u - 1169) / 3) else if (u - 1169) % 3 = 1 then v 1 u + bit t ((u - 1169) / 3) else v 1 u) else v 1 u := by
  intro n
  induction n with
  | zero => intro c v u _; rw [if_neg (by omega)]; rfl
  | succ n ih =>
    intro c v u h
    show hlF t (c + 1) n (hlb v t c) 1 u = _
    rw [ih (c + 1) _ u (by omega), hlb_at (by omega)]
    by_cases z : 1169 + 3 * (c + 1) ≤ u ∧ u < 1169 + 3 * (c + 1 + n)
    · rw [if_pos z, if_neg (show ¬ u = 1169 + 3 * c + 1 by omega), if_neg (show ¬ u = 1169 + 3 * c + 0 by omega), if_pos (show 1169 + 3 * c ≤ u ∧ u < 1169 + 3 * (c + (n + 1)) by omega)]
    · rw [if_neg z]
      by_cases y : u = 1169 + 3 * c + 1
      · rw [if_pos y, if_pos (show 1169 + 3 * c ≤ u ∧ u < 1169 + 3 * (c + (n + 1)) by omega), if_neg (show ¬ (u - 1169) % 3 = 0 by omega), if_pos (show (u - 1169) % 3 = 1 by omega), show (u - 1169) / 3 = c by omega]
      · rw [if_neg y]
        by_cases x : u = 1169 + 3 * c + 0
        · rw [if_pos x, if_pos (show 1169 + 3 * c ≤ u ∧ u < 1169 + 3 * (c + (n + 1)) by omega), if_pos (show (u - 1169) % 3 = 0 by omega), show (u - 1169) / 3 = c by omega]
        · rw [if_neg x]
          by_cases y2 : 1169 + 3 * c ≤ u ∧ u < 1169 + 3 * (c + (n + 1))
          · rw [if_pos y2, if_neg (show ¬ (u - 1169) % 3 = 0 by omega), if_neg (show ¬ (u - 1169) % 3 = 1 by omega)]
          · rw [if_neg y2]
theorem hlF_k {t : Int32} {k : Fin 9} (h : k ≠ 1) : ∀ (n c : Nat) (v : HV), hlF t c n v k = v k := by
  intro n
  induction n with
  | zero => intro c v; rfl
  | succ n ih =>
    intro c v
    show hlF t (c + 1) n (hlb v t c) k = _
    rw [ih]
    unfold hlb hla
    rw [inc_k h, dcr_k h]
theorem hiB_at {v : HV} {k q O N : Nat} {m h t : Int32} (hk : k < 16) (hq : q < 10) (hO : O < 10) (e16 : v 1 16 = oN O) (e8 : v 1 8 = oN N) (u : Nat) : hiB v (oN O) (oN k) (oN q) m h t 1 u = if u = 1129 + 4 * q + 2 then oN N else if u = 1017 + 7 * k + 6 then v 1 (1017 + 7 * k + 6) + 1 else if u = 1017 + 7 * k + 0 then 1 else if u = 1187 + 7 * O + 6 then 0 else if u = 1187 + 7 * O + 5 then t else if u = 1187 + 7 * O + 4 then h else if u = 1187 + 7 * O + 3 then m else if u = 1187 + 7 * O + 2 then oN q else if u = 1187 + 7 * O + 1 then oN k else if u = 1187 + 7 * O + 0 then oN N else if u = 16 then oN (O + 1) else v 1 u := by
  have b1 : ∀ u, hi1 v 1 u = if u = 16 then oN (O + 1) else v 1 u := by
    intro u; unfold hi1; rw [inc1, e16, oN_succ]
  have b2 : ∀ u, hi2 v (oN O) (oN k) (oN q) m h t 1 u = if u = 1187 + 7 * O + 0 then oN N else hi1 v 1 u := by
    intro u; unfold hi2; rw [adH_0 (by omega), u21, b1 8, if_neg (show ¬ 8 = 16 by omega), e8]
  have b8 : ∀ u, hi8 v (oN O) (oN k) (oN q) m h t 1 u = if u = 1187 + 7 * O + 6 then 0 else if u = 1187 + 7 * O + 5 then t else if u = 1187 + 7 * O + 4 then h else if u = 1187 + 7 * O + 3 then m else if u = 1187 + 7 * O + 2 then oN q else if u = 1187 + 7 * O + 1 then oN k else hi2 v (oN O) (oN k) (oN q) m h t 1 u := by
    intro u; unfold hi8 hi7 hi6 hi5 hi4 hi3
    rw [adH_1 (by omega), adH_2 (by omega), adH_3 (by omega), adH_4 (by omega), adH_5 (by omega), adH_6 (by omega), u21, u21, u21, u21, u21, u21]
  have b9 : ∀ u, hi9 v (oN O) (oN k) (oN q) m h t 1 u = if u = 1017 + 7 * k + 0 then 1 else hi8 v (oN O) (oN k) (oN q) m h t 1 u := by
    intro u; unfold hi9; rw [adK_0 (by omega), u21]
  have bx : ∀ u, u ≠ 16 → u < 1187 → u ≠ 1017 + 7 * k + 0 → hi9 v (oN O) (oN k) (oN q) m h t 1 u = v 1 u := by
    intro u h1 h2 h3
    rw [b9, if_neg h3, b8, if_neg (by omega), if_neg (by omega), if_neg (by omega), if_neg (by omega), if_neg (by omega), if_neg (by omega), b2, if_neg (by omega), b1, if_neg h1]
  have bA : ∀ u, hiA v (oN O) (oN k) (oN q) m h t 1 u = if u = 1017 + 7 * k + 6 then v 1 (1017 + 7 * k + 6) + 1 else hi9 v (oN O) (oN k) (oN q) m h t 1 u := by
    intro u; unfold hiA; rw [adK_6 (by omega), inc1, bx (1017 + 7 * k + 6) (by omega) (by omega) (by omega)]
  unfold hiB
  rw [adS_2 (by omega), u21, bA 8, if_neg (show ¬ 8 = 1017 + 7 * k + 6 by omega), bx 8 (by omega) (by omega) (by omega), e8, bA, b9, b8, b2, b1]
theorem hj_at {v : HV} {k q O N : Nat} {m h t : Int32} (hk : k < 16) (hq : q < 10) (hO : O < 10) (e16 : v 1 16 = oN O) (e8 : v 1 8 = oN N) (u : Nat) : hjM v (oN k) (oN q) m h t 1 u = if u = 8 then oN (N + 1) else if u = 12 then v 1 12 + v 1 (1017 + 7 * k + 4) * h else if u = 1187 + 7 * O + 6 then 0 + v 1 (1017 + 7 * k + 4) * h else if 1169 ≤ u ∧ u < 1187 then (if (u - 1169) % 3 = 0 then v 1 u - bit t ((u - 1169) / 3) else if (u - 1169) % 3 = 1 then v 1 u + bit t ((u - 1169) / 3) else v 1 u) else hiB v (oN O) (oN k) (oN q) m h t 1 u := by
  have B := hiB_at (m := m) (h := h) (t := t) hk hq hO e16 e8
  have bo : ∀ u, u ≠ 16 → u < 1187 → u ≠ 1017 + 7 * k + 0 → u ≠ 1017 + 7 * k + 6 → u ≠ 1129 + 4 * q + 2 → hiB v (oN O) (oN k) (oN q) m h t 1 u = v 1 u := by
    intro u h1 h2 h3 h4 h5
    rw [B, if_neg (by omega), if_neg (by omega), if_neg (by omega), if_neg (by omega), if_neg (by omega), if_neg (by omega), if_neg (by omega), if_neg (by omega), if_neg (by omega), if_neg (by omega), if_neg (by omega)]
  have C : ∀ u, hlF t 0 6 (hiB v (oN O) (oN k) (oN q) m h t) 1 u = if 1169 ≤ u ∧ u < 1187 then (if (u - 1169) % 3 = 0 then v 1 u - bit t ((u - 1169) / 3) else if (u - 1169) % 3 = 1 then v 1 u + bit t ((u - 1169) / 3) else v 1 u) else hiB v (oN O) (oN k) (oN q) m h t 1 u := by
    intro u
    rw [hlF_at 6 0 _ u (by omega)]
    by_cases z : 1169 ≤ u ∧ u < 1187
    · rw [if_pos (show 1169 + 3 * 0 ≤ u ∧ u < 1169 + 3 * (0 + 6) by omega), if_pos z, bo u (by omega) (by omega) (by omega) (by omega) (by omega)]
    · rw [if_neg (show ¬ (1169 + 3 * 0 ≤ u ∧ u < 1169 + 3 * (0 + 6)) by omega), if_neg z]
  have co : ∀ u, u ≠ 16 → u < 1169 → u ≠ 1017 + 7 * k + 0 → u ≠ 1017 + 7 * k + 6 → u ≠ 1129 + 4 * q + 2 → hlF t 0 6 (hiB v (oN O) (oN k) (oN q) m h t) 1 u = v 1 u := by
    intro u h1 h2 h3 h4 h5
    rw [C, if_neg (by omega), bo u h1 (by omega) h3 h4 h5]
  unfold hjM
  rw [e16]
  have c6 : hlF t 0 6 (hiB v (oN O) (oN k) (oN q) m h t) 1 (1187 + 7 * O + 6) = 0 := by
    rw [C, if_neg (by omega), B, if_neg (by omega), if_neg (by omega), if_neg (by omega), if_pos rfl]
  have cu : uk (hlF t 0 6 (hiB v (oN O) (oN k) (oN q) m h t)) (oN k) 4 = v 1 (1017 + 7 * k + 4) := by
    show hlF t 0 6 (hiB v (oN O) (oN k) (oN q) m h t) 1 (1017 + 7 * oN k + 4).toNatClampNeg = _
    rw [adK_4 (by omega), co _ (by omega) (by omega) (by omega) (by omega) (by omega)]
  have c8 := co 8 (by omega) (by omega) (by omega) (by omega) (by omega)
  have c12 := co 12 (by omega) (by omega) (by omega) (by omega) (by omega)
  generalize hlF t 0 6 (hiB v (oN O) (oN k) (oN q) m h t) = x at C c6 cu c8 c12 ⊢
  unfold hz2 hz1
  rw [cu, inc1, pyM_at (by omega), pyM_at (by omega), c6, c12, if_neg (show ¬ 8 = 12 by omega), if_neg (show ¬ 8 = 1187 + 7 * O + 6 by omega), c8, e8, oN_succ, C]
theorem hj_k {v : HV} {a b m h t : Int32} {k : Fin 9} (hk : k ≠ 1) : hjM v a b m h t k = v k := by
  unfold hjM hz2 hz1
  rw [inc_k hk, pyM_k hk, hlF_k hk]
  unfold hiB hiA hi9 hi8 hi7 hi6 hi5 hi4 hi3 hi2 hi1
  rw [up2_kn hk, inc_k hk, up2_kn hk, up2_kn hk, up2_kn hk, up2_kn hk, up2_kn hk, up2_kn hk, up2_kn hk, up2_kn hk, inc_k hk]

