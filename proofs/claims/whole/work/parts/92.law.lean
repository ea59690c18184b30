/-! the law: its loop -/
section LW
variable {G : ho_G} {σ : ho_H} {w : Nat → Nat} {N O n b L : Nat} {C : CK} {cc : Nat} {bf : Nat → Int32} {W : Nat → Nat → Int32} {PL : List PQ} {ρ : Nat → RS} {dr : Nat → Int32} {xs : Nat → Int32}
theorem scr_ld {i : Nat} (hw : wf G σ) (hb : b < gB G) (hx : gR G b = some (L, xs)) (hi : i < L) (hL : L ≤ 3075) : ho_ldI G σ b (ii i) = some (xs i) := ld_S (by
  unfold ho_rI
  rw [hw.1 b hb]
  exact hx) hi (by omega)
theorem scr_ln (hw : wf G σ) (hb : b < gB G) (hx : gR G b = some (L, xs)) : ho_lnI G σ b = some (ii L) := by
  unfold ho_lnI ho_rI
  rw [hw.1 b hb]
  dsimp only
  rw [hx]
  rfl
theorem cmp_same {x : Int64} : lg_cmp x x = 0 := by
  unfold lg_cmp
  rw [if_neg (Int64.lt_irrefl), if_pos rfl]
theorem good.succ (h : good G σ w O n C cc bf W PL ρ dr) : good G σ w O (n + 1) C cc bf W PL ρ dr := by
  obtain ⟨h1, h2, h3, h4, h5⟩ := h
  exact ⟨h1, h2, h3.succ, by omega, lim (Nat.le_add_right _ _) h5⟩
/-- a call is done, and the next begins -/
def nxt (G : ho_G) (O n : Nat) (f : Option ((ho_H × Int32) ⊕ (ho_H ⊕ (ho_H × Int32)))) : Prop := ∃ σ2 w2 C cc bf W PL ρ dr, f = some (.inl (σ2, ii (3 + 6 * (n + 1)))) ∧ good G σ2 w2 O (n + 1) C cc bf W PL ρ dr
theorem x6 : ii (3 + 6 * n) + 6 = ii (3 + 6 * (n + 1)) := by
  rw [show (6 : Int32) = ii 6 from rfl, ii_add, show 3 + 6 * n + 6 = 3 + 6 * (n + 1) by omega]
theorem xk (k : Nat) : ii (3 + 6 * n) + ii k = ii (3 + 6 * n + k) := ii_add _ _

theorem lw_chain (hg : good G σ w O n C cc bf W PL ρ dr) (hr : roomy G O n) (ht : gtab G) (hA : gA G 4 < gB G) (hb : b < gB G) (hx : gR G b = some (L, xs)) (hL : L ≤ 3075) (hn : 9 + 6 * n ≤ L) (hN : 1001 < N) : nxt G O n ((ho_ldI G σ b (ii (3 + 6 * n) + 1)).bind fun v0 => (ho_ldI G σ b (ii (3 + 6 * n) + 2)).bind fun v1 => (ho_ldI G σ b (ii (3 + 6 * n) + 3)).bind fun v2 => (ho_ldI G σ b (ii (3 + 6 * n) + 4)).bind fun v3 => (ho_ldI G σ b (ii (3 + 6 * n) + 5)).bind fun v4 => bd2 (ho_ck σ (f_Lw_chain G N σ O v0 v1 v2 v3 v4 (O + 226))) fun σ1 k => (ho_ldI G σ1 b (ii (3 + 6 * n) + 1)).bind fun u0 => (ho_ldI G σ1 b (ii (3 + 6 * n) + 2)).bind fun u1 => (ho_ldI G σ1 b (ii (3 + 6 * n) + 3)).bind fun u2 => (ho_ldI G σ1 b (ii (3 + 6 * n) + 4)).bind fun u3 => (ho_ldI G σ1 b (ii (3 + 6 * n) + 5)).bind fun u4 => (ho_f σ1 (O + 195) 6).bind fun _ => bd2 (ho_ck σ1 (f_Md_chain G N σ1 (O + 195) u0 u1 u2 u3 u4)) fun σ2 v2 => (ho_f σ2 (O + 195) 6).bind fun _ => (f_Md_thrown G N σ2 (O + 195)).bind fun t => if t = k then if ¬ k = 0 then f_Lw_law_j245_in53 G N σ2 b O (O + 195) (O + 226) (ii (3 + 6 * n)) else (ho_ldL G σ2 (O + 226) 2 0).bind fun v3 => if (lg_cmp v3 v2.toInt64) = 0 then f_Lw_law_j245_in53 G N σ2 b O (O + 195) (O + 226) (ii (3 + 6 * n)) else some (.inr (.inr (σ2, 0))) else some (.inr (.inr (σ2, 0)))) := by
  obtain ⟨σ1, k, σ2, v2, a1, a2, a3, ⟨f4, a4⟩, a5, a6, ⟨f7, a7⟩, a8, a9, w2, C2, cc2, bf2, W2, PL2, ρ2, dr2, a10⟩ := J_chain (N := N) (x1 := xs (3 + 6 * n + 1)) (x2 := xs (3 + 6 * n + 2)) (x3 := xs (3 + 6 * n + 3)) (x4 := xs (3 + 6 * n + 4)) (x5 := xs (3 + 6 * n + 5)) hg hr ht hN
  have hw := hg.1.1.1
  have e : ((ho_ldI G σ b (ii (3 + 6 * n) + 1)).bind fun v0 => (ho_ldI G σ b (ii (3 + 6 * n) + 2)).bind fun v1 => (ho_ldI G σ b (ii (3 + 6 * n) + 3)).bind fun v2 => (ho_ldI G σ b (ii (3 + 6 * n) + 4)).bind fun v3 => (ho_ldI G σ b (ii (3 + 6 * n) + 5)).bind fun v4 => bd2 (ho_ck σ (f_Lw_chain G N σ O v0 v1 v2 v3 v4 (O + 226))) fun σ1 k => (ho_ldI G σ1 b (ii (3 + 6 * n) + 1)).bind fun u0 => (ho_ldI G σ1 b (ii (3 + 6 * n) + 2)).bind fun u1 => (ho_ldI G σ1 b (ii (3 + 6 * n) + 3)).bind fun u2 => (ho_ldI G σ1 b (ii (3 + 6 * n) + 4)).bind fun u3 => (ho_ldI G σ1 b (ii (3 + 6 * n) + 5)).bind fun u4 => (ho_f σ1 (O + 195) 6).bind fun _ => bd2 (ho_ck σ1 (f_Md_chain G N σ1 (O + 195) u0 u1 u2 u3 u4)) fun σ2 v2 => (ho_f σ2 (O + 195) 6).bind fun _ => (f_Md_thrown G N σ2 (O + 195)).bind fun t => if t = k then if ¬ k = 0 then f_Lw_law_j245_in53 G N σ2 b O (O + 195) (O + 226) (ii (3 + 6 * n)) else (ho_ldL G σ2 (O + 226) 2 0).bind fun v3 => if (lg_cmp v3 v2.toInt64) = 0 then f_Lw_law_j245_in53 G N σ2 b O (O + 195) (O + 226) (ii (3 + 6 * n)) else some (.inr (.inr (σ2, 0))) else some (.inr (.inr (σ2, 0)))) = some (.inl (σ2, ii (3 + 6 * (n + 1)))) := by
    rw [show ii (3 + 6 * n) + 1 = ii (3 + 6 * n + 1) from ii_add _ 1, show ii (3 + 6 * n) + 2 = ii (3 + 6 * n + 2) from ii_add _ 2, show ii (3 + 6 * n) + 3 = ii (3 + 6 * n + 3) from ii_add _ 3, show ii (3 + 6 * n) + 4 = ii (3 + 6 * n + 4) from ii_add _ 4, show ii (3 + 6 * n) + 5 = ii (3 + 6 * n + 5) from ii_add _ 5, scr_ld hw hb hx (show 3 + 6 * n + 1 < L by omega) hL, bd_S, scr_ld hw hb hx (show 3 + 6 * n + 2 < L by omega) hL, bd_S, scr_ld hw hb hx (show 3 + 6 * n + 3 < L by omega) hL, bd_S, scr_ld hw hb hx (show 3 + 6 * n + 4 < L by omega) hL, bd_S, scr_ld hw hb hx (show 3 + 6 * n + 5 < L by omega) hL, bd_S, a1, ck_S a2.1 a2.2, bd2_S, scr_ld a3 hb hx (show 3 + 6 * n + 1 < L by omega) hL, bd_S, scr_ld a3 hb hx (show 3 + 6 * n + 2 < L by omega) hL, bd_S, scr_ld a3 hb hx (show 3 + 6 * n + 3 < L by omega) hL, bd_S, scr_ld a3 hb hx (show 3 + 6 * n + 4 < L by omega) hL, bd_S, scr_ld a3 hb hx (show 3 + 6 * n + 5 < L by omega) hL, bd_S, a4, bd_S]
    dsimp only at a5
    rw [a5, ck_S a6.1 a6.2, bd2_S, a7, bd_S, a8, bd_S, if_pos rfl]
    unfold f_Lw_law_j245_in53 f_Lw_law_j1137_in53
    by_cases hk : k = 0
    · rw [if_neg (fun h => h hk), a9 hk, bd_S, if_pos cmp_same, x6]
    · rw [if_pos hk, x6]
  exact ⟨σ2, w2, C2, cc2, bf2, W2, PL2, ρ2, dr2, e, a10⟩
theorem lw_tick (hg : good G σ w O n C cc bf W PL ρ dr) (hr : roomy G O n) (ht : gtab G) (hA : gA G 4 < gB G) (hb : b < gB G) (hx : gR G b = some (L, xs)) (hL : L ≤ 3075) (hn : 9 + 6 * n ≤ L) (hN : 1001 < N) : nxt G O n ((ho_ldI G σ b (ii (3 + 6 * n) + 1)).bind fun v0 => bd2 (ho_ck σ (f_Lw_tick G N σ O v0 (O + 226))) fun σ1 k => (ho_ldI G σ1 b (ii (3 + 6 * n) + 1)).bind fun u0 => (ho_f σ1 (O + 195) 6).bind fun _ => bd2 (ho_ck σ1 (f_Md_tick G N σ1 (O + 195) u0)) fun σ2 v2 => (ho_f σ2 (O + 195) 6).bind fun _ => (f_Md_thrown G N σ2 (O + 195)).bind fun t => if t = k then if ¬ k = 0 then f_Lw_law_j301_in53 G N σ2 b O (O + 195) (O + 226) (ii (3 + 6 * n)) else (ho_ldL G σ2 (O + 226) 2 0).bind fun v3 => if (lg_cmp v3 v2.toInt64) = 0 then f_Lw_law_j301_in53 G N σ2 b O (O + 195) (O + 226) (ii (3 + 6 * n)) else some (.inr (.inr (σ2, 0))) else some (.inr (.inr (σ2, 0)))) := by
  obtain ⟨σ1, k, σ2, v2, a1, a2, a3, ⟨f4, a4⟩, a5, a6, ⟨f7, a7⟩, a8, a9, w2, C2, cc2, bf2, W2, PL2, ρ2, dr2, a10⟩ := J_tick (N := N) (x := xs (3 + 6 * n + 1)) hg hr
  have hw := hg.1.1.1
  have e : ((ho_ldI G σ b (ii (3 + 6 * n) + 1)).bind fun v0 => bd2 (ho_ck σ (f_Lw_tick G N σ O v0 (O + 226))) fun σ1 k => (ho_ldI G σ1 b (ii (3 + 6 * n) + 1)).bind fun u0 => (ho_f σ1 (O + 195) 6).bind fun _ => bd2 (ho_ck σ1 (f_Md_tick G N σ1 (O + 195) u0)) fun σ2 v2 => (ho_f σ2 (O + 195) 6).bind fun _ => (f_Md_thrown G N σ2 (O + 195)).bind fun t => if t = k then if ¬ k = 0 then f_Lw_law_j301_in53 G N σ2 b O (O + 195) (O + 226) (ii (3 + 6 * n)) else (ho_ldL G σ2 (O + 226) 2 0).bind fun v3 => if (lg_cmp v3 v2.toInt64) = 0 then f_Lw_law_j301_in53 G N σ2 b O (O + 195) (O + 226) (ii (3 + 6 * n)) else some (.inr (.inr (σ2, 0))) else some (.inr (.inr (σ2, 0)))) = some (.inl (σ2, ii (3 + 6 * (n + 1)))) := by
    rw [show ii (3 + 6 * n) + 1 = ii (3 + 6 * n + 1) from ii_add _ 1, scr_ld hw hb hx (show 3 + 6 * n + 1 < L by omega) hL, bd_S, a1, ck_S a2.1 a2.2, bd2_S, scr_ld a3 hb hx (show 3 + 6 * n + 1 < L by omega) hL, bd_S, a4, bd_S]
    dsimp only at a5
    rw [a5, ck_S a6.1 a6.2, bd2_S, a7, bd_S, a8, bd_S, if_pos rfl]
    unfold f_Lw_law_j301_in53 f_Lw_law_j1137_in53
    by_cases hk : k = 0
    · rw [if_neg (fun h => h hk), a9 hk, bd_S, if_pos cmp_same, x6]
    · rw [if_pos hk, x6]
  exact ⟨σ2, w2, C2, cc2, bf2, W2, PL2, ρ2, dr2, e, a10⟩
theorem lw_load (hg : good G σ w O n C cc bf W PL ρ dr) (hr : roomy G O n) (ht : gtab G) (hA : gA G 4 < gB G) (hb : b < gB G) (hx : gR G b = some (L, xs)) (hL : L ≤ 3075) (hn : 9 + 6 * n ≤ L) (hN : 1001 < N) : nxt G O n ((ho_ldI G σ b (ii (3 + 6 * n) + 1)).bind fun v0 => (ho_ldI G σ b (ii (3 + 6 * n) + 2)).bind fun v1 => bd2 (ho_ck σ (f_Lw_load G N σ O v0 v1 (O + 226))) fun σ1 k => (ho_ldI G σ1 b (ii (3 + 6 * n) + 1)).bind fun u0 => (ho_ldI G σ1 b (ii (3 + 6 * n) + 2)).bind fun u1 => (ho_f σ1 (O + 195) 6).bind fun _ => bd2 (ho_ck σ1 (f_Md_load G N σ1 (O + 195) u0 u1)) fun σ2 v2 => (ho_f σ2 (O + 195) 6).bind fun _ => (f_Md_thrown G N σ2 (O + 195)).bind fun t => if t = k then if ¬ k = 0 then f_Lw_law_j369_in53 G N σ2 b O (O + 195) (O + 226) (ii (3 + 6 * n)) else (ho_ldL G σ2 (O + 226) 2 0).bind fun v3 => if (lg_cmp v3 v2.toInt64) = 0 then f_Lw_law_j369_in53 G N σ2 b O (O + 195) (O + 226) (ii (3 + 6 * n)) else some (.inr (.inr (σ2, 0))) else some (.inr (.inr (σ2, 0)))) := by
  obtain ⟨σ1, k, σ2, v2, a1, a2, a3, ⟨f4, a4⟩, a5, a6, ⟨f7, a7⟩, a8, a9, w2, C2, cc2, bf2, W2, PL2, ρ2, dr2, a10⟩ := J_load (N := N) (x := xs (3 + 6 * n + 1)) (y := xs (3 + 6 * n + 2)) hg hr
  have hw := hg.1.1.1
  have e : ((ho_ldI G σ b (ii (3 + 6 * n) + 1)).bind fun v0 => (ho_ldI G σ b (ii (3 + 6 * n) + 2)).bind fun v1 => bd2 (ho_ck σ (f_Lw_load G N σ O v0 v1 (O + 226))) fun σ1 k => (ho_ldI G σ1 b (ii (3 + 6 * n) + 1)).bind fun u0 => (ho_ldI G σ1 b (ii (3 + 6 * n) + 2)).bind fun u1 => (ho_f σ1 (O + 195) 6).bind fun _ => bd2 (ho_ck σ1 (f_Md_load G N σ1 (O + 195) u0 u1)) fun σ2 v2 => (ho_f σ2 (O + 195) 6).bind fun _ => (f_Md_thrown G N σ2 (O + 195)).bind fun t => if t = k then if ¬ k = 0 then f_Lw_law_j369_in53 G N σ2 b O (O + 195) (O + 226) (ii (3 + 6 * n)) else (ho_ldL G σ2 (O + 226) 2 0).bind fun v3 => if (lg_cmp v3 v2.toInt64) = 0 then f_Lw_law_j369_in53 G N σ2 b O (O + 195) (O + 226) (ii (3 + 6 * n)) else some (.inr (.inr (σ2, 0))) else some (.inr (.inr (σ2, 0)))) = some (.inl (σ2, ii (3 + 6 * (n + 1)))) := by
    rw [show ii (3 + 6 * n) + 1 = ii (3 + 6 * n + 1) from ii_add _ 1, show ii (3 + 6 * n) + 2 = ii (3 + 6 * n + 2) from ii_add _ 2, scr_ld hw hb hx (show 3 + 6 * n + 1 < L by omega) hL, bd_S, scr_ld hw hb hx (show 3 + 6 * n + 2 < L by omega) hL, bd_S, a1, ck_S a2.1 a2.2, bd2_S, scr_ld a3 hb hx (show 3 + 6 * n + 1 < L by omega) hL, bd_S, scr_ld a3 hb hx (show 3 + 6 * n + 2 < L by omega) hL, bd_S, a4, bd_S]
    dsimp only at a5
    rw [a5, ck_S a6.1 a6.2, bd2_S, a7, bd_S, a8, bd_S, if_pos rfl]
    unfold f_Lw_law_j369_in53 f_Lw_law_j1137_in53
    by_cases hk : k = 0
    · rw [if_neg (fun h => h hk), a9 hk, bd_S, if_pos cmp_same, x6]
    · rw [if_pos hk, x6]
  exact ⟨σ2, w2, C2, cc2, bf2, W2, PL2, ρ2, dr2, e, a10⟩
theorem lw_digest (hg : good G σ w O n C cc bf W PL ρ dr) (hr : roomy G O n) (ht : gtab G) (hA : gA G 4 < gB G) (hb : b < gB G) (hx : gR G b = some (L, xs)) (hL : L ≤ 3075) (hn : 9 + 6 * n ≤ L) (hN : 1001 < N) : nxt G O n ((ho_ldI G σ b (ii (3 + 6 * n) + 1)).bind fun v0 => (ho_ldI G σ b (ii (3 + 6 * n) + 2)).bind fun v1 => bd2 (ho_ck σ (f_Lw_digest G N σ O v0 v1 (O + 226))) fun σ1 k => (ho_ldI G σ1 b (ii (3 + 6 * n) + 1)).bind fun u0 => (ho_ldI G σ1 b (ii (3 + 6 * n) + 2)).bind fun u1 => (ho_f σ1 (O + 195) 6).bind fun _ => bd2 (ho_ck σ1 (f_Md_digest G N σ1 (O + 195) u0 u1)) fun σ2 v2 => (ho_f σ2 (O + 195) 6).bind fun _ => (f_Md_thrown G N σ2 (O + 195)).bind fun t => if t = k then if ¬ k = 0 then f_Lw_law_j437_in53 G N σ2 b O (O + 195) (O + 226) (ii (3 + 6 * n)) else (ho_ldL G σ2 (O + 226) 2 0).bind fun v3 => if (lg_cmp v3 v2.toInt64) = 0 then f_Lw_law_j437_in53 G N σ2 b O (O + 195) (O + 226) (ii (3 + 6 * n)) else some (.inr (.inr (σ2, 0))) else some (.inr (.inr (σ2, 0)))) := by
  obtain ⟨σ1, k, σ2, v2, a1, a2, a3, ⟨f4, a4⟩, a5, a6, ⟨f7, a7⟩, a8, a9, w2, C2, cc2, bf2, W2, PL2, ρ2, dr2, a10⟩ := J_digest (N := N) (x := xs (3 + 6 * n + 1)) (y := xs (3 + 6 * n + 2)) hg hr ht hN
  have hw := hg.1.1.1
  have e : ((ho_ldI G σ b (ii (3 + 6 * n) + 1)).bind fun v0 => (ho_ldI G σ b (ii (3 + 6 * n) + 2)).bind fun v1 => bd2 (ho_ck σ (f_Lw_digest G N σ O v0 v1 (O + 226))) fun σ1 k => (ho_ldI G σ1 b (ii (3 + 6 * n) + 1)).bind fun u0 => (ho_ldI G σ1 b (ii (3 + 6 * n) + 2)).bind fun u1 => (ho_f σ1 (O + 195) 6).bind fun _ => bd2 (ho_ck σ1 (f_Md_digest G N σ1 (O + 195) u0 u1)) fun σ2 v2 => (ho_f σ2 (O + 195) 6).bind fun _ => (f_Md_thrown G N σ2 (O + 195)).bind fun t => if t = k then if ¬ k = 0 then f_Lw_law_j437_in53 G N σ2 b O (O + 195) (O + 226) (ii (3 + 6 * n)) else (ho_ldL G σ2 (O + 226) 2 0).bind fun v3 => if (lg_cmp v3 v2.toInt64) = 0 then f_Lw_law_j437_in53 G N σ2 b O (O + 195) (O + 226) (ii (3 + 6 * n)) else some (.inr (.inr (σ2, 0))) else some (.inr (.inr (σ2, 0)))) = some (.inl (σ2, ii (3 + 6 * (n + 1)))) := by
    rw [show ii (3 + 6 * n) + 1 = ii (3 + 6 * n + 1) from ii_add _ 1, show ii (3 + 6 * n) + 2 = ii (3 + 6 * n + 2) from ii_add _ 2, scr_ld hw hb hx (show 3 + 6 * n + 1 < L by omega) hL, bd_S, scr_ld hw hb hx (show 3 + 6 * n + 2 < L by omega) hL, bd_S, a1, ck_S a2.1 a2.2, bd2_S, scr_ld a3 hb hx (show 3 + 6 * n + 1 < L by omega) hL, bd_S, scr_ld a3 hb hx (show 3 + 6 * n + 2 < L by omega) hL, bd_S, a4, bd_S]
    dsimp only at a5
    rw [a5, ck_S a6.1 a6.2, bd2_S, a7, bd_S, a8, bd_S, if_pos rfl]
    unfold f_Lw_law_j437_in53 f_Lw_law_j1137_in53
    by_cases hk : k = 0
    · rw [if_neg (fun h => h hk), a9 hk, bd_S, if_pos cmp_same, x6]
    · rw [if_pos hk, x6]
  exact ⟨σ2, w2, C2, cc2, bf2, W2, PL2, ρ2, dr2, e, a10⟩
theorem lw_send (hg : good G σ w O n C cc bf W PL ρ dr) (hr : roomy G O n) (ht : gtab G) (hA : gA G 4 < gB G) (hb : b < gB G) (hx : gR G b = some (L, xs)) (hL : L ≤ 3075) (hn : 9 + 6 * n ≤ L) (hN : 1001 < N) : nxt G O n ((ho_ldI G σ b (ii (3 + 6 * n) + 1)).bind fun v0 => bd2 (ho_ck σ (f_Lw_send G N σ O v0 (O + 226))) fun σ1 k => (ho_ldI G σ1 b (ii (3 + 6 * n) + 1)).bind fun u0 => (ho_f σ1 (O + 195) 6).bind fun _ => bd2 (ho_ck σ1 (f_Md_send G N σ1 (O + 195) u0)) fun σ2 v2 => (ho_f σ2 (O + 195) 6).bind fun _ => (f_Md_thrown G N σ2 (O + 195)).bind fun t => if t = k then if ¬ k = 0 then f_Lw_law_j493_in53 G N σ2 b O (O + 195) (O + 226) (ii (3 + 6 * n)) else (ho_ldL G σ2 (O + 226) 2 0).bind fun v3 => if (lg_cmp v3 v2.toInt64) = 0 then f_Lw_law_j493_in53 G N σ2 b O (O + 195) (O + 226) (ii (3 + 6 * n)) else some (.inr (.inr (σ2, 0))) else some (.inr (.inr (σ2, 0)))) := by
  obtain ⟨σ1, k, σ2, v2, a1, a2, a3, ⟨f4, a4⟩, a5, a6, ⟨f7, a7⟩, a8, a9, w2, C2, cc2, bf2, W2, PL2, ρ2, dr2, a10⟩ := J_send (N := N) (x := xs (3 + 6 * n + 1)) hg hr ht hA hN
  have hw := hg.1.1.1
  have e : ((ho_ldI G σ b (ii (3 + 6 * n) + 1)).bind fun v0 => bd2 (ho_ck σ (f_Lw_send G N σ O v0 (O + 226))) fun σ1 k => (ho_ldI G σ1 b (ii (3 + 6 * n) + 1)).bind fun u0 => (ho_f σ1 (O + 195) 6).bind fun _ => bd2 (ho_ck σ1 (f_Md_send G N σ1 (O + 195) u0)) fun σ2 v2 => (ho_f σ2 (O + 195) 6).bind fun _ => (f_Md_thrown G N σ2 (O + 195)).bind fun t => if t = k then if ¬ k = 0 then f_Lw_law_j493_in53 G N σ2 b O (O + 195) (O + 226) (ii (3 + 6 * n)) else (ho_ldL G σ2 (O + 226) 2 0).bind fun v3 => if (lg_cmp v3 v2.toInt64) = 0 then f_Lw_law_j493_in53 G N σ2 b O (O + 195) (O + 226) (ii (3 + 6 * n)) else some (.inr (.inr (σ2, 0))) else some (.inr (.inr (σ2, 0)))) = some (.inl (σ2, ii (3 + 6 * (n + 1)))) := by
    rw [show ii (3 + 6 * n) + 1 = ii (3 + 6 * n + 1) from ii_add _ 1, scr_ld hw hb hx (show 3 + 6 * n + 1 < L by omega) hL, bd_S, a1, ck_S a2.1 a2.2, bd2_S, scr_ld a3 hb hx (show 3 + 6 * n + 1 < L by omega) hL, bd_S, a4, bd_S]
    dsimp only at a5
    rw [a5, ck_S a6.1 a6.2, bd2_S, a7, bd_S, a8, bd_S, if_pos rfl]
    unfold f_Lw_law_j493_in53 f_Lw_law_j1137_in53
    by_cases hk : k = 0
    · rw [if_neg (fun h => h hk), a9 hk, bd_S, if_pos cmp_same, x6]
    · rw [if_pos hk, x6]
  exact ⟨σ2, w2, C2, cc2, bf2, W2, PL2, ρ2, dr2, e, a10⟩
theorem lw_root (hg : good G σ w O n C cc bf W PL ρ dr) (hr : roomy G O n) (ht : gtab G) (hA : gA G 4 < gB G) (hb : b < gB G) (hx : gR G b = some (L, xs)) (hL : L ≤ 3075) (hn : 9 + 6 * n ≤ L) (hN : 1001 < N) : nxt G O n (bd2 (ho_ck σ (f_Lw_root G N σ O (O + 226))) fun σ1 k => (ho_f σ1 (O + 195) 6).bind fun _ => bd2 (ho_ck σ1 (f_Md_root G N σ1 (O + 195))) fun σ2 v2 => (ho_f σ2 (O + 195) 6).bind fun _ => (f_Md_thrown G N σ2 (O + 195)).bind fun t => if t = k then if ¬ k = 0 then f_Lw_law_j537_in53 G N σ2 b O (O + 195) (O + 226) (ii (3 + 6 * n)) else (ho_ldL G σ2 (O + 226) 2 0).bind fun v3 => if (lg_cmp v3 v2.toInt64) = 0 then f_Lw_law_j537_in53 G N σ2 b O (O + 195) (O + 226) (ii (3 + 6 * n)) else some (.inr (.inr (σ2, 0))) else some (.inr (.inr (σ2, 0)))) := by
  obtain ⟨σ1, k, σ2, v2, a1, a2, a3, ⟨f4, a4⟩, a5, a6, ⟨f7, a7⟩, a8, a9, w2, C2, cc2, bf2, W2, PL2, ρ2, dr2, a10⟩ := J_root (N := N) hg hr ht hA hN
  have hw := hg.1.1.1
  have e : (bd2 (ho_ck σ (f_Lw_root G N σ O (O + 226))) fun σ1 k => (ho_f σ1 (O + 195) 6).bind fun _ => bd2 (ho_ck σ1 (f_Md_root G N σ1 (O + 195))) fun σ2 v2 => (ho_f σ2 (O + 195) 6).bind fun _ => (f_Md_thrown G N σ2 (O + 195)).bind fun t => if t = k then if ¬ k = 0 then f_Lw_law_j537_in53 G N σ2 b O (O + 195) (O + 226) (ii (3 + 6 * n)) else (ho_ldL G σ2 (O + 226) 2 0).bind fun v3 => if (lg_cmp v3 v2.toInt64) = 0 then f_Lw_law_j537_in53 G N σ2 b O (O + 195) (O + 226) (ii (3 + 6 * n)) else some (.inr (.inr (σ2, 0))) else some (.inr (.inr (σ2, 0)))) = some (.inl (σ2, ii (3 + 6 * (n + 1)))) := by
    rw [a1, ck_S a2.1 a2.2, bd2_S, a4, bd_S]
    dsimp only at a5
    rw [a5, ck_S a6.1 a6.2, bd2_S, a7, bd_S, a8, bd_S, if_pos rfl]
    unfold f_Lw_law_j537_in53 f_Lw_law_j1137_in53
    by_cases hk : k = 0
    · rw [if_neg (fun h => h hk), a9 hk, bd_S, if_pos cmp_same, x6]
    · rw [if_pos hk, x6]
  exact ⟨σ2, w2, C2, cc2, bf2, W2, PL2, ρ2, dr2, e, a10⟩
theorem lw_packet (hg : good G σ w O n C cc bf W PL ρ dr) (hr : roomy G O n) (ht : gtab G) (hA : gA G 4 < gB G) (hb : b < gB G) (hx : gR G b = some (L, xs)) (hL : L ≤ 3075) (hn : 9 + 6 * n ≤ L) (hN : 1001 < N) : nxt G O n ((ho_ldI G σ b (ii (3 + 6 * n) + 1)).bind fun v0 => (ho_ldI G σ b (ii (3 + 6 * n) + 2)).bind fun v1 => bd2 (ho_ck σ (f_Lw_packet G N σ O v0 v1 (O + 226))) fun σ1 k => (ho_ldI G σ1 b (ii (3 + 6 * n) + 1)).bind fun u0 => (ho_ldI G σ1 b (ii (3 + 6 * n) + 2)).bind fun u1 => (ho_f σ1 (O + 195) 6).bind fun _ => bd2 (ho_ck σ1 (f_Md_packet G N σ1 (O + 195) u0 u1)) fun σ2 v2 => (ho_f σ2 (O + 195) 6).bind fun _ => (f_Md_thrown G N σ2 (O + 195)).bind fun t => if t = k then if ¬ k = 0 then f_Lw_law_j605_in53 G N σ2 b O (O + 195) (O + 226) (ii (3 + 6 * n)) else (ho_ldL G σ2 (O + 226) 2 0).bind fun v3 => if (lg_cmp v3 v2.toInt64) = 0 then f_Lw_law_j605_in53 G N σ2 b O (O + 195) (O + 226) (ii (3 + 6 * n)) else some (.inr (.inr (σ2, 0))) else some (.inr (.inr (σ2, 0)))) := by
  obtain ⟨σ1, k, σ2, v2, a1, a2, a3, ⟨f4, a4⟩, a5, a6, ⟨f7, a7⟩, a8, a9, w2, C2, cc2, bf2, W2, PL2, ρ2, dr2, a10⟩ := J_packet (N := N) (x := xs (3 + 6 * n + 1)) (y := xs (3 + 6 * n + 2)) hg hr
  have hw := hg.1.1.1
  have e : ((ho_ldI G σ b (ii (3 + 6 * n) + 1)).bind fun v0 => (ho_ldI G σ b (ii (3 + 6 * n) + 2)).bind fun v1 => bd2 (ho_ck σ (f_Lw_packet G N σ O v0 v1 (O + 226))) fun σ1 k => (ho_ldI G σ1 b (ii (3 + 6 * n) + 1)).bind fun u0 => (ho_ldI G σ1 b (ii (3 + 6 * n) + 2)).bind fun u1 => (ho_f σ1 (O + 195) 6).bind fun _ => bd2 (ho_ck σ1 (f_Md_packet G N σ1 (O + 195) u0 u1)) fun σ2 v2 => (ho_f σ2 (O + 195) 6).bind fun _ => (f_Md_thrown G N σ2 (O + 195)).bind fun t => if t = k then if ¬ k = 0 then f_Lw_law_j605_in53 G N σ2 b O (O + 195) (O + 226) (ii (3 + 6 * n)) else (ho_ldL G σ2 (O + 226) 2 0).bind fun v3 => if (lg_cmp v3 v2.toInt64) = 0 then f_Lw_law_j605_in53 G N σ2 b O (O + 195) (O + 226) (ii (3 + 6 * n)) else some (.inr (.inr (σ2, 0))) else some (.inr (.inr (σ2, 0)))) = some (.inl (σ2, ii (3 + 6 * (n + 1)))) := by
    rw [show ii (3 + 6 * n) + 1 = ii (3 + 6 * n + 1) from ii_add _ 1, show ii (3 + 6 * n) + 2 = ii (3 + 6 * n + 2) from ii_add _ 2, scr_ld hw hb hx (show 3 + 6 * n + 1 < L by omega) hL, bd_S, scr_ld hw hb hx (show 3 + 6 * n + 2 < L by omega) hL, bd_S, a1, ck_S a2.1 a2.2, bd2_S, scr_ld a3 hb hx (show 3 + 6 * n + 1 < L by omega) hL, bd_S, scr_ld a3 hb hx (show 3 + 6 * n + 2 < L by omega) hL, bd_S, a4, bd_S]
    dsimp only at a5
    rw [a5, ck_S a6.1 a6.2, bd2_S, a7, bd_S, a8, bd_S, if_pos rfl]
    unfold f_Lw_law_j605_in53 f_Lw_law_j1137_in53
    by_cases hk : k = 0
    · rw [if_neg (fun h => h hk), a9 hk, bd_S, if_pos cmp_same, x6]
    · rw [if_pos hk, x6]
  exact ⟨σ2, w2, C2, cc2, bf2, W2, PL2, ρ2, dr2, e, a10⟩
theorem lw_key (hg : good G σ w O n C cc bf W PL ρ dr) (hr : roomy G O n) (ht : gtab G) (hA : gA G 4 < gB G) (hb : b < gB G) (hx : gR G b = some (L, xs)) (hL : L ≤ 3075) (hn : 9 + 6 * n ≤ L) (hN : 1001 < N) : nxt G O n ((ho_ldI G σ b (ii (3 + 6 * n) + 1)).bind fun v0 => (ho_ldI G σ b (ii (3 + 6 * n) + 2)).bind fun v1 => bd2 (ho_ck σ (f_Lw_key G N σ O v0 v1 (O + 226))) fun σ1 k => (ho_ldI G σ1 b (ii (3 + 6 * n) + 1)).bind fun u0 => (ho_ldI G σ1 b (ii (3 + 6 * n) + 2)).bind fun u1 => (ho_f σ1 (O + 195) 6).bind fun _ => bd2 (ho_ck σ1 (f_Md_key G N σ1 (O + 195) u0 u1)) fun σ2 v2 => (ho_f σ2 (O + 195) 6).bind fun _ => (f_Md_thrown G N σ2 (O + 195)).bind fun t => if t = k then if ¬ k = 0 then f_Lw_law_j673_in53 G N σ2 b O (O + 195) (O + 226) (ii (3 + 6 * n)) else (ho_ldL G σ2 (O + 226) 2 0).bind fun v3 => if (lg_cmp v3 v2.toInt64) = 0 then f_Lw_law_j673_in53 G N σ2 b O (O + 195) (O + 226) (ii (3 + 6 * n)) else some (.inr (.inr (σ2, 0))) else some (.inr (.inr (σ2, 0)))) := by
  obtain ⟨σ1, k, σ2, v2, a1, a2, a3, ⟨f4, a4⟩, a5, a6, ⟨f7, a7⟩, a8, a9, w2, C2, cc2, bf2, W2, PL2, ρ2, dr2, a10⟩ := J_key (N := N) (x := xs (3 + 6 * n + 1)) (y := xs (3 + 6 * n + 2)) hg hr
  have hw := hg.1.1.1
  have e : ((ho_ldI G σ b (ii (3 + 6 * n) + 1)).bind fun v0 => (ho_ldI G σ b (ii (3 + 6 * n) + 2)).bind fun v1 => bd2 (ho_ck σ (f_Lw_key G N σ O v0 v1 (O + 226))) fun σ1 k => (ho_ldI G σ1 b (ii (3 + 6 * n) + 1)).bind fun u0 => (ho_ldI G σ1 b (ii (3 + 6 * n) + 2)).bind fun u1 => (ho_f σ1 (O + 195) 6).bind fun _ => bd2 (ho_ck σ1 (f_Md_key G N σ1 (O + 195) u0 u1)) fun σ2 v2 => (ho_f σ2 (O + 195) 6).bind fun _ => (f_Md_thrown G N σ2 (O + 195)).bind fun t => if t = k then if ¬ k = 0 then f_Lw_law_j673_in53 G N σ2 b O (O + 195) (O + 226) (ii (3 + 6 * n)) else (ho_ldL G σ2 (O + 226) 2 0).bind fun v3 => if (lg_cmp v3 v2.toInt64) = 0 then f_Lw_law_j673_in53 G N σ2 b O (O + 195) (O + 226) (ii (3 + 6 * n)) else some (.inr (.inr (σ2, 0))) else some (.inr (.inr (σ2, 0)))) = some (.inl (σ2, ii (3 + 6 * (n + 1)))) := by
    rw [show ii (3 + 6 * n) + 1 = ii (3 + 6 * n + 1) from ii_add _ 1, show ii (3 + 6 * n) + 2 = ii (3 + 6 * n + 2) from ii_add _ 2, scr_ld hw hb hx (show 3 + 6 * n + 1 < L by omega) hL, bd_S, scr_ld hw hb hx (show 3 + 6 * n + 2 < L by omega) hL, bd_S, a1, ck_S a2.1 a2.2, bd2_S, scr_ld a3 hb hx (show 3 + 6 * n + 1 < L by omega) hL, bd_S, scr_ld a3 hb hx (show 3 + 6 * n + 2 < L by omega) hL, bd_S, a4, bd_S]
    dsimp only at a5
    rw [a5, ck_S a6.1 a6.2, bd2_S, a7, bd_S, a8, bd_S, if_pos rfl]
    unfold f_Lw_law_j673_in53 f_Lw_law_j1137_in53
    by_cases hk : k = 0
    · rw [if_neg (fun h => h hk), a9 hk, bd_S, if_pos cmp_same, x6]
    · rw [if_pos hk, x6]
  exact ⟨σ2, w2, C2, cc2, bf2, W2, PL2, ρ2, dr2, e, a10⟩
theorem lw_drift (hg : good G σ w O n C cc bf W PL ρ dr) (hr : roomy G O n) (ht : gtab G) (hA : gA G 4 < gB G) (hb : b < gB G) (hx : gR G b = some (L, xs)) (hL : L ≤ 3075) (hn : 9 + 6 * n ≤ L) (hN : 1001 < N) : nxt G O n ((ho_ldI G σ b (ii (3 + 6 * n) + 1)).bind fun v0 => (ho_ldI G σ b (ii (3 + 6 * n) + 2)).bind fun v1 => bd2 (ho_ck σ (f_Lw_drift G N σ O v0 v1 (O + 226))) fun σ1 k => (ho_ldI G σ1 b (ii (3 + 6 * n) + 1)).bind fun u0 => (ho_ldI G σ1 b (ii (3 + 6 * n) + 2)).bind fun u1 => (ho_f σ1 (O + 195) 6).bind fun _ => bd2 (ho_ck σ1 (f_Md_drift G N σ1 (O + 195) u0 u1)) fun σ2 v2 => (ho_f σ2 (O + 195) 6).bind fun _ => (f_Md_thrown G N σ2 (O + 195)).bind fun t => if t = k then if ¬ k = 0 then f_Lw_law_j789_in53 G N σ2 b O (O + 195) (O + 226) (ii (3 + 6 * n)) else (ho_ldL G σ2 (O + 226) 2 0).bind fun v3 => if (lg_cmp v3 v2.toInt64) = 0 then f_Lw_law_j789_in53 G N σ2 b O (O + 195) (O + 226) (ii (3 + 6 * n)) else some (.inr (.inr (σ2, 0))) else some (.inr (.inr (σ2, 0)))) := by
  obtain ⟨σ1, k, σ2, v2, a1, a2, a3, ⟨f4, a4⟩, a5, a6, ⟨f7, a7⟩, a8, a9, w2, C2, cc2, bf2, W2, PL2, ρ2, dr2, a10⟩ := J_drift (N := N) (x := xs (3 + 6 * n + 1)) (y := xs (3 + 6 * n + 2)) hg hr
  have hw := hg.1.1.1
  have e : ((ho_ldI G σ b (ii (3 + 6 * n) + 1)).bind fun v0 => (ho_ldI G σ b (ii (3 + 6 * n) + 2)).bind fun v1 => bd2 (ho_ck σ (f_Lw_drift G N σ O v0 v1 (O + 226))) fun σ1 k => (ho_ldI G σ1 b (ii (3 + 6 * n) + 1)).bind fun u0 => (ho_ldI G σ1 b (ii (3 + 6 * n) + 2)).bind fun u1 => (ho_f σ1 (O + 195) 6).bind fun _ => bd2 (ho_ck σ1 (f_Md_drift G N σ1 (O + 195) u0 u1)) fun σ2 v2 => (ho_f σ2 (O + 195) 6).bind fun _ => (f_Md_thrown G N σ2 (O + 195)).bind fun t => if t = k then if ¬ k = 0 then f_Lw_law_j789_in53 G N σ2 b O (O + 195) (O + 226) (ii (3 + 6 * n)) else (ho_ldL G σ2 (O + 226) 2 0).bind fun v3 => if (lg_cmp v3 v2.toInt64) = 0 then f_Lw_law_j789_in53 G N σ2 b O (O + 195) (O + 226) (ii (3 + 6 * n)) else some (.inr (.inr (σ2, 0))) else some (.inr (.inr (σ2, 0)))) = some (.inl (σ2, ii (3 + 6 * (n + 1)))) := by
    rw [show ii (3 + 6 * n) + 1 = ii (3 + 6 * n + 1) from ii_add _ 1, show ii (3 + 6 * n) + 2 = ii (3 + 6 * n + 2) from ii_add _ 2, scr_ld hw hb hx (show 3 + 6 * n + 1 < L by omega) hL, bd_S, scr_ld hw hb hx (show 3 + 6 * n + 2 < L by omega) hL, bd_S, a1, ck_S a2.1 a2.2, bd2_S, scr_ld a3 hb hx (show 3 + 6 * n + 1 < L by omega) hL, bd_S, scr_ld a3 hb hx (show 3 + 6 * n + 2 < L by omega) hL, bd_S, a4, bd_S]
    dsimp only at a5
    rw [a5, ck_S a6.1 a6.2, bd2_S, a7, bd_S, a8, bd_S, if_pos rfl]
    unfold f_Lw_law_j789_in53 f_Lw_law_j1137_in53
    by_cases hk : k = 0
    · rw [if_neg (fun h => h hk), a9 hk, bd_S, if_pos cmp_same, x6]
    · rw [if_pos hk, x6]
  exact ⟨σ2, w2, C2, cc2, bf2, W2, PL2, ρ2, dr2, e, a10⟩
theorem lw_arrive (hg : good G σ w O n C cc bf W PL ρ dr) (hr : roomy G O n) (ht : gtab G) (hA : gA G 4 < gB G) (hb : b < gB G) (hx : gR G b = some (L, xs)) (hL : L ≤ 3075) (hn : 9 + 6 * n ≤ L) (hN : 1001 < N) : nxt G O n ((ho_ldI G σ b (ii (3 + 6 * n) + 1)).bind fun v0 => (ho_ldI G σ b (ii (3 + 6 * n) + 2)).bind fun v1 => (ho_ldI G σ b (ii (3 + 6 * n) + 3)).bind fun v2 => (ho_ldI G σ b (ii (3 + 6 * n) + 4)).bind fun v3 => bd2 (ho_ck σ (f_Lw_arrive G N σ O v0 v1 v2 v3 (O + 226))) fun σ1 k => (ho_ldI G σ1 b (ii (3 + 6 * n) + 1)).bind fun u0 => (ho_ldI G σ1 b (ii (3 + 6 * n) + 2)).bind fun u1 => (ho_ldI G σ1 b (ii (3 + 6 * n) + 3)).bind fun u2 => (ho_ldI G σ1 b (ii (3 + 6 * n) + 4)).bind fun u3 => (ho_f σ1 (O + 195) 6).bind fun _ => bd2 (ho_ck σ1 (f_Md_arrive G N σ1 (O + 195) u0 u1 u2 u3)) fun σ2 v2 => (ho_f σ2 (O + 195) 6).bind fun _ => (f_Md_thrown G N σ2 (O + 195)).bind fun t => if t = k then if ¬ k = 0 then f_Lw_law_j881_in53 G N σ2 b O (O + 195) (O + 226) (ii (3 + 6 * n)) else (ho_ldL G σ2 (O + 226) 2 0).bind fun v3 => if (lg_cmp v3 v2.toInt64) = 0 then f_Lw_law_j881_in53 G N σ2 b O (O + 195) (O + 226) (ii (3 + 6 * n)) else some (.inr (.inr (σ2, 0))) else some (.inr (.inr (σ2, 0)))) := by
  obtain ⟨σ1, k, σ2, v2, a1, a2, a3, ⟨f4, a4⟩, a5, a6, ⟨f7, a7⟩, a8, a9, w2, C2, cc2, bf2, W2, PL2, ρ2, dr2, a10⟩ := J_arrive (N := N) (x := xs (3 + 6 * n + 1)) (y := xs (3 + 6 * n + 2)) (z := xs (3 + 6 * n + 3)) (u := xs (3 + 6 * n + 4)) hg hr ht hA hN
  have hw := hg.1.1.1
  have e : ((ho_ldI G σ b (ii (3 + 6 * n) + 1)).bind fun v0 => (ho_ldI G σ b (ii (3 + 6 * n) + 2)).bind fun v1 => (ho_ldI G σ b (ii (3 + 6 * n) + 3)).bind fun v2 => (ho_ldI G σ b (ii (3 + 6 * n) + 4)).bind fun v3 => bd2 (ho_ck σ (f_Lw_arrive G N σ O v0 v1 v2 v3 (O + 226))) fun σ1 k => (ho_ldI G σ1 b (ii (3 + 6 * n) + 1)).bind fun u0 => (ho_ldI G σ1 b (ii (3 + 6 * n) + 2)).bind fun u1 => (ho_ldI G σ1 b (ii (3 + 6 * n) + 3)).bind fun u2 => (ho_ldI G σ1 b (ii (3 + 6 * n) + 4)).bind fun u3 => (ho_f σ1 (O + 195) 6).bind fun _ => bd2 (ho_ck σ1 (f_Md_arrive G N σ1 (O + 195) u0 u1 u2 u3)) fun σ2 v2 => (ho_f σ2 (O + 195) 6).bind fun _ => (f_Md_thrown G N σ2 (O + 195)).bind fun t => if t = k then if ¬ k = 0 then f_Lw_law_j881_in53 G N σ2 b O (O + 195) (O + 226) (ii (3 + 6 * n)) else (ho_ldL G σ2 (O + 226) 2 0).bind fun v3 => if (lg_cmp v3 v2.toInt64) = 0 then f_Lw_law_j881_in53 G N σ2 b O (O + 195) (O + 226) (ii (3 + 6 * n)) else some (.inr (.inr (σ2, 0))) else some (.inr (.inr (σ2, 0)))) = some (.inl (σ2, ii (3 + 6 * (n + 1)))) := by
    rw [show ii (3 + 6 * n) + 1 = ii (3 + 6 * n + 1) from ii_add _ 1, show ii (3 + 6 * n) + 2 = ii (3 + 6 * n + 2) from ii_add _ 2, show ii (3 + 6 * n) + 3 = ii (3 + 6 * n + 3) from ii_add _ 3, show ii (3 + 6 * n) + 4 = ii (3 + 6 * n + 4) from ii_add _ 4, scr_ld hw hb hx (show 3 + 6 * n + 1 < L by omega) hL, bd_S, scr_ld hw hb hx (show 3 + 6 * n + 2 < L by omega) hL, bd_S, scr_ld hw hb hx (show 3 + 6 * n + 3 < L by omega) hL, bd_S, scr_ld hw hb hx (show 3 + 6 * n + 4 < L by omega) hL, bd_S, a1, ck_S a2.1 a2.2, bd2_S, scr_ld a3 hb hx (show 3 + 6 * n + 1 < L by omega) hL, bd_S, scr_ld a3 hb hx (show 3 + 6 * n + 2 < L by omega) hL, bd_S, scr_ld a3 hb hx (show 3 + 6 * n + 3 < L by omega) hL, bd_S, scr_ld a3 hb hx (show 3 + 6 * n + 4 < L by omega) hL, bd_S, a4, bd_S]
    dsimp only at a5
    rw [a5, ck_S a6.1 a6.2, bd2_S, a7, bd_S, a8, bd_S, if_pos rfl]
    unfold f_Lw_law_j881_in53 f_Lw_law_j1137_in53
    by_cases hk : k = 0
    · rw [if_neg (fun h => h hk), a9 hk, bd_S, if_pos cmp_same, x6]
    · rw [if_pos hk, x6]
  exact ⟨σ2, w2, C2, cc2, bf2, W2, PL2, ρ2, dr2, e, a10⟩
theorem lw_receiver (hg : good G σ w O n C cc bf W PL ρ dr) (hr : roomy G O n) (ht : gtab G) (hA : gA G 4 < gB G) (hb : b < gB G) (hx : gR G b = some (L, xs)) (hL : L ≤ 3075) (hn : 9 + 6 * n ≤ L) (hN : 1001 < N) : nxt G O n ((ho_ldI G σ b (ii (3 + 6 * n) + 1)).bind fun v0 => (ho_ldI G σ b (ii (3 + 6 * n) + 2)).bind fun v1 => bd2 (ho_ck σ (f_Lw_receiver G N σ O v0 v1 (O + 226))) fun σ1 k => (ho_ldI G σ1 b (ii (3 + 6 * n) + 1)).bind fun u0 => (ho_ldI G σ1 b (ii (3 + 6 * n) + 2)).bind fun u1 => (ho_f σ1 (O + 195) 6).bind fun _ => bd2 (ho_ck σ1 (f_Md_receiver G N σ1 (O + 195) u0 u1)) fun σ2 v2 => (ho_f σ2 (O + 195) 6).bind fun _ => (f_Md_thrown G N σ2 (O + 195)).bind fun t => if t = k then if ¬ k = 0 then f_Lw_law_j949_in53 G N σ2 b O (O + 195) (O + 226) (ii (3 + 6 * n)) else (ho_ldL G σ2 (O + 226) 2 0).bind fun v3 => if (lg_cmp v3 v2.toInt64) = 0 then f_Lw_law_j949_in53 G N σ2 b O (O + 195) (O + 226) (ii (3 + 6 * n)) else some (.inr (.inr (σ2, 0))) else some (.inr (.inr (σ2, 0)))) := by
  obtain ⟨σ1, k, σ2, v2, a1, a2, a3, ⟨f4, a4⟩, a5, a6, ⟨f7, a7⟩, a8, a9, w2, C2, cc2, bf2, W2, PL2, ρ2, dr2, a10⟩ := J_receiver (N := N) (x := xs (3 + 6 * n + 1)) (y := xs (3 + 6 * n + 2)) hg hr hN
  have hw := hg.1.1.1
  have e : ((ho_ldI G σ b (ii (3 + 6 * n) + 1)).bind fun v0 => (ho_ldI G σ b (ii (3 + 6 * n) + 2)).bind fun v1 => bd2 (ho_ck σ (f_Lw_receiver G N σ O v0 v1 (O + 226))) fun σ1 k => (ho_ldI G σ1 b (ii (3 + 6 * n) + 1)).bind fun u0 => (ho_ldI G σ1 b (ii (3 + 6 * n) + 2)).bind fun u1 => (ho_f σ1 (O + 195) 6).bind fun _ => bd2 (ho_ck σ1 (f_Md_receiver G N σ1 (O + 195) u0 u1)) fun σ2 v2 => (ho_f σ2 (O + 195) 6).bind fun _ => (f_Md_thrown G N σ2 (O + 195)).bind fun t => if t = k then if ¬ k = 0 then f_Lw_law_j949_in53 G N σ2 b O (O + 195) (O + 226) (ii (3 + 6 * n)) else (ho_ldL G σ2 (O + 226) 2 0).bind fun v3 => if (lg_cmp v3 v2.toInt64) = 0 then f_Lw_law_j949_in53 G N σ2 b O (O + 195) (O + 226) (ii (3 + 6 * n)) else some (.inr (.inr (σ2, 0))) else some (.inr (.inr (σ2, 0)))) = some (.inl (σ2, ii (3 + 6 * (n + 1)))) := by
    rw [show ii (3 + 6 * n) + 1 = ii (3 + 6 * n + 1) from ii_add _ 1, show ii (3 + 6 * n) + 2 = ii (3 + 6 * n + 2) from ii_add _ 2, scr_ld hw hb hx (show 3 + 6 * n + 1 < L by omega) hL, bd_S, scr_ld hw hb hx (show 3 + 6 * n + 2 < L by omega) hL, bd_S, a1, ck_S a2.1 a2.2, bd2_S, scr_ld a3 hb hx (show 3 + 6 * n + 1 < L by omega) hL, bd_S, scr_ld a3 hb hx (show 3 + 6 * n + 2 < L by omega) hL, bd_S, a4, bd_S]
    dsimp only at a5
    rw [a5, ck_S a6.1 a6.2, bd2_S, a7, bd_S, a8, bd_S, if_pos rfl]
    unfold f_Lw_law_j949_in53 f_Lw_law_j1137_in53
    by_cases hk : k = 0
    · rw [if_neg (fun h => h hk), a9 hk, bd_S, if_pos cmp_same, x6]
    · rw [if_pos hk, x6]
  exact ⟨σ2, w2, C2, cc2, bf2, W2, PL2, ρ2, dr2, e, a10⟩
theorem lw_released (hg : good G σ w O n C cc bf W PL ρ dr) (hr : roomy G O n) (ht : gtab G) (hA : gA G 4 < gB G) (hb : b < gB G) (hx : gR G b = some (L, xs)) (hL : L ≤ 3075) (hn : 9 + 6 * n ≤ L) (hN : 1001 < N) : nxt G O n ((ho_ldI G σ b (ii (3 + 6 * n) + 1)).bind fun v0 => (ho_ldI G σ b (ii (3 + 6 * n) + 2)).bind fun v1 => (ho_ldI G σ b (ii (3 + 6 * n) + 3)).bind fun v2 => bd2 (ho_ck σ (f_Lw_released G N σ O v0 v1 v2 (O + 226))) fun σ1 k => (ho_ldI G σ1 b (ii (3 + 6 * n) + 1)).bind fun u0 => (ho_ldI G σ1 b (ii (3 + 6 * n) + 2)).bind fun u1 => (ho_ldI G σ1 b (ii (3 + 6 * n) + 3)).bind fun u2 => (ho_f σ1 (O + 195) 6).bind fun _ => bd2 (ho_ck σ1 (f_Md_released G N σ1 (O + 195) u0 u1 u2)) fun σ2 v2 => (ho_f σ2 (O + 195) 6).bind fun _ => (f_Md_thrown G N σ2 (O + 195)).bind fun t => if t = k then if ¬ k = 0 then f_Lw_law_j1029_in53 G N σ2 b O (O + 195) (O + 226) (ii (3 + 6 * n)) else (ho_ldL G σ2 (O + 226) 2 0).bind fun v3 => if (lg_cmp v3 v2.toInt64) = 0 then f_Lw_law_j1029_in53 G N σ2 b O (O + 195) (O + 226) (ii (3 + 6 * n)) else some (.inr (.inr (σ2, 0))) else some (.inr (.inr (σ2, 0)))) := by
  obtain ⟨σ1, k, σ2, v2, a1, a2, a3, ⟨f4, a4⟩, a5, a6, ⟨f7, a7⟩, a8, a9, w2, C2, cc2, bf2, W2, PL2, ρ2, dr2, a10⟩ := J_released (N := N) (x := xs (3 + 6 * n + 1)) (y := xs (3 + 6 * n + 2)) (z := xs (3 + 6 * n + 3)) hg hr hN
  have hw := hg.1.1.1
  have e : ((ho_ldI G σ b (ii (3 + 6 * n) + 1)).bind fun v0 => (ho_ldI G σ b (ii (3 + 6 * n) + 2)).bind fun v1 => (ho_ldI G σ b (ii (3 + 6 * n) + 3)).bind fun v2 => bd2 (ho_ck σ (f_Lw_released G N σ O v0 v1 v2 (O + 226))) fun σ1 k => (ho_ldI G σ1 b (ii (3 + 6 * n) + 1)).bind fun u0 => (ho_ldI G σ1 b (ii (3 + 6 * n) + 2)).bind fun u1 => (ho_ldI G σ1 b (ii (3 + 6 * n) + 3)).bind fun u2 => (ho_f σ1 (O + 195) 6).bind fun _ => bd2 (ho_ck σ1 (f_Md_released G N σ1 (O + 195) u0 u1 u2)) fun σ2 v2 => (ho_f σ2 (O + 195) 6).bind fun _ => (f_Md_thrown G N σ2 (O + 195)).bind fun t => if t = k then if ¬ k = 0 then f_Lw_law_j1029_in53 G N σ2 b O (O + 195) (O + 226) (ii (3 + 6 * n)) else (ho_ldL G σ2 (O + 226) 2 0).bind fun v3 => if (lg_cmp v3 v2.toInt64) = 0 then f_Lw_law_j1029_in53 G N σ2 b O (O + 195) (O + 226) (ii (3 + 6 * n)) else some (.inr (.inr (σ2, 0))) else some (.inr (.inr (σ2, 0)))) = some (.inl (σ2, ii (3 + 6 * (n + 1)))) := by
    rw [show ii (3 + 6 * n) + 1 = ii (3 + 6 * n + 1) from ii_add _ 1, show ii (3 + 6 * n) + 2 = ii (3 + 6 * n + 2) from ii_add _ 2, show ii (3 + 6 * n) + 3 = ii (3 + 6 * n + 3) from ii_add _ 3, scr_ld hw hb hx (show 3 + 6 * n + 1 < L by omega) hL, bd_S, scr_ld hw hb hx (show 3 + 6 * n + 2 < L by omega) hL, bd_S, scr_ld hw hb hx (show 3 + 6 * n + 3 < L by omega) hL, bd_S, a1, ck_S a2.1 a2.2, bd2_S, scr_ld a3 hb hx (show 3 + 6 * n + 1 < L by omega) hL, bd_S, scr_ld a3 hb hx (show 3 + 6 * n + 2 < L by omega) hL, bd_S, scr_ld a3 hb hx (show 3 + 6 * n + 3 < L by omega) hL, bd_S, a4, bd_S]
    dsimp only at a5
    rw [a5, ck_S a6.1 a6.2, bd2_S, a7, bd_S, a8, bd_S, if_pos rfl]
    unfold f_Lw_law_j1029_in53 f_Lw_law_j1137_in53
    by_cases hk : k = 0
    · rw [if_neg (fun h => h hk), a9 hk, bd_S, if_pos cmp_same, x6]
    · rw [if_pos hk, x6]
  exact ⟨σ2, w2, C2, cc2, bf2, W2, PL2, ρ2, dr2, e, a10⟩
theorem lw_releasedByte (hg : good G σ w O n C cc bf W PL ρ dr) (hr : roomy G O n) (ht : gtab G) (hA : gA G 4 < gB G) (hb : b < gB G) (hx : gR G b = some (L, xs)) (hL : L ≤ 3075) (hn : 9 + 6 * n ≤ L) (hN : 1001 < N) : nxt G O n ((ho_ldI G σ b (ii (3 + 6 * n) + 1)).bind fun v0 => (ho_ldI G σ b (ii (3 + 6 * n) + 2)).bind fun v1 => (ho_ldI G σ b (ii (3 + 6 * n) + 3)).bind fun v2 => bd2 (ho_ck σ (f_Lw_releasedByte G N σ O v0 v1 v2 (O + 226))) fun σ1 k => (ho_ldI G σ1 b (ii (3 + 6 * n) + 1)).bind fun u0 => (ho_ldI G σ1 b (ii (3 + 6 * n) + 2)).bind fun u1 => (ho_ldI G σ1 b (ii (3 + 6 * n) + 3)).bind fun u2 => (ho_f σ1 (O + 195) 6).bind fun _ => bd2 (ho_ck σ1 (f_Md_releasedByte G N σ1 (O + 195) u0 u1 u2)) fun σ2 v2 => (ho_f σ2 (O + 195) 6).bind fun _ => (f_Md_thrown G N σ2 (O + 195)).bind fun t => if t = k then if ¬ k = 0 then f_Lw_law_j1109_in53 G N σ2 b O (O + 195) (O + 226) (ii (3 + 6 * n)) else (ho_ldL G σ2 (O + 226) 2 0).bind fun v3 => if (lg_cmp v3 v2.toInt64) = 0 then f_Lw_law_j1109_in53 G N σ2 b O (O + 195) (O + 226) (ii (3 + 6 * n)) else some (.inr (.inr (σ2, 0))) else some (.inr (.inr (σ2, 0)))) := by
  obtain ⟨σ1, k, σ2, v2, a1, a2, a3, ⟨f4, a4⟩, a5, a6, ⟨f7, a7⟩, a8, a9, w2, C2, cc2, bf2, W2, PL2, ρ2, dr2, a10⟩ := J_releasedByte (N := N) (x := xs (3 + 6 * n + 1)) (y := xs (3 + 6 * n + 2)) (z := xs (3 + 6 * n + 3)) hg hr hN
  have hw := hg.1.1.1
  have e : ((ho_ldI G σ b (ii (3 + 6 * n) + 1)).bind fun v0 => (ho_ldI G σ b (ii (3 + 6 * n) + 2)).bind fun v1 => (ho_ldI G σ b (ii (3 + 6 * n) + 3)).bind fun v2 => bd2 (ho_ck σ (f_Lw_releasedByte G N σ O v0 v1 v2 (O + 226))) fun σ1 k => (ho_ldI G σ1 b (ii (3 + 6 * n) + 1)).bind fun u0 => (ho_ldI G σ1 b (ii (3 + 6 * n) + 2)).bind fun u1 => (ho_ldI G σ1 b (ii (3 + 6 * n) + 3)).bind fun u2 => (ho_f σ1 (O + 195) 6).bind fun _ => bd2 (ho_ck σ1 (f_Md_releasedByte G N σ1 (O + 195) u0 u1 u2)) fun σ2 v2 => (ho_f σ2 (O + 195) 6).bind fun _ => (f_Md_thrown G N σ2 (O + 195)).bind fun t => if t = k then if ¬ k = 0 then f_Lw_law_j1109_in53 G N σ2 b O (O + 195) (O + 226) (ii (3 + 6 * n)) else (ho_ldL G σ2 (O + 226) 2 0).bind fun v3 => if (lg_cmp v3 v2.toInt64) = 0 then f_Lw_law_j1109_in53 G N σ2 b O (O + 195) (O + 226) (ii (3 + 6 * n)) else some (.inr (.inr (σ2, 0))) else some (.inr (.inr (σ2, 0)))) = some (.inl (σ2, ii (3 + 6 * (n + 1)))) := by
    rw [show ii (3 + 6 * n) + 1 = ii (3 + 6 * n + 1) from ii_add _ 1, show ii (3 + 6 * n) + 2 = ii (3 + 6 * n + 2) from ii_add _ 2, show ii (3 + 6 * n) + 3 = ii (3 + 6 * n + 3) from ii_add _ 3, scr_ld hw hb hx (show 3 + 6 * n + 1 < L by omega) hL, bd_S, scr_ld hw hb hx (show 3 + 6 * n + 2 < L by omega) hL, bd_S, scr_ld hw hb hx (show 3 + 6 * n + 3 < L by omega) hL, bd_S, a1, ck_S a2.1 a2.2, bd2_S, scr_ld a3 hb hx (show 3 + 6 * n + 1 < L by omega) hL, bd_S, scr_ld a3 hb hx (show 3 + 6 * n + 2 < L by omega) hL, bd_S, scr_ld a3 hb hx (show 3 + 6 * n + 3 < L by omega) hL, bd_S, a4, bd_S]
    dsimp only at a5
    rw [a5, ck_S a6.1 a6.2, bd2_S, a7, bd_S, a8, bd_S, if_pos rfl]
    unfold f_Lw_law_j1109_in53 f_Lw_law_j1137_in53
    by_cases hk : k = 0
    · rw [if_neg (fun h => h hk), a9 hk, bd_S, if_pos cmp_same, x6]
    · rw [if_pos hk, x6]
  exact ⟨σ2, w2, C2, cc2, bf2, W2, PL2, ρ2, dr2, e, a10⟩
theorem lw_join (hg : good G σ w O n C cc bf W PL ρ dr) (hr : roomy G O n) (hb : b < gB G) (hx : gR G b = some (L, xs)) (hL : L ≤ 3075) (hn : 9 + 6 * n ≤ L) (hN : 1001 < N) : nxt G O n ((ho_ldI G σ b (ii (3 + 6 * n) + 1)).bind fun v0 => (ho_ldI G σ b (ii (3 + 6 * n) + 2)).bind fun v1 => bd2 (ho_ck σ (f_Lw_join G N σ O v0 v1)) fun σ1 k => (ho_ldI G σ1 b (ii (3 + 6 * n) + 1)).bind fun u0 => (ho_ldI G σ1 b (ii (3 + 6 * n) + 2)).bind fun u1 => (ho_f σ1 (O + 195) 6).bind fun _ => (ho_cv σ1 (f_Md_join G N σ1 (O + 195) u0 u1)).bind fun σ2 => (ho_f σ2 (O + 195) 6).bind fun _ => (f_Md_thrown G N σ2 (O + 195)).bind fun t => if t = k then f_Lw_law_j1137_in53 G N σ2 b O (O + 195) (O + 226) (ii (3 + 6 * n)) else some (.inr (.inr (σ2, 0)))) := by
  obtain ⟨σ1, k, σ2, a1, a2, a3, ⟨f4, a4⟩, a5, a6, ⟨f7, a7⟩, a8, w2, C2, cc2, bf2, W2, PL2, ρ2, dr2, a10⟩ := J_join (N := N) (x := xs (3 + 6 * n + 1)) (y := xs (3 + 6 * n + 2)) hg hr hN
  have hw := hg.1.1.1
  refine ⟨σ2, w2, C2, cc2, bf2, W2, PL2, ρ2, dr2, ?_, a10⟩
  dsimp only at a5
  rw [show ii (3 + 6 * n) + 1 = ii (3 + 6 * n + 1) from ii_add _ 1, show ii (3 + 6 * n) + 2 = ii (3 + 6 * n + 2) from ii_add _ 2, scr_ld hw hb hx (show 3 + 6 * n + 1 < L by omega) hL, bd_S, scr_ld hw hb hx (show 3 + 6 * n + 2 < L by omega) hL, bd_S, a1, ck_S a2.1 a2.2, bd2_S, scr_ld a3 hb hx (show 3 + 6 * n + 1 < L by omega) hL, bd_S, scr_ld a3 hb hx (show 3 + 6 * n + 2 < L by omega) hL, bd_S, a4, bd_S, a5, cv_S a6.1 a6.2, bd_S, a7, bd_S, a8, bd_S, if_pos rfl]
  unfold f_Lw_law_j1137_in53
  rw [x6]
theorem lw_count (hg : good G σ w O n C cc bf W PL ρ dr) (hb : b < gB G) (hx : gR G b = some (L, xs)) (hL : L ≤ 3075) (hn : 9 + 6 * n ≤ L) : nxt G O n ((ho_ldI G σ b (ii (3 + 6 * n) + 1)).bind fun v190 => (ho_f σ O 5).bind fun _ => (f_Of_count G N σ O v190).bind fun v192 => (ho_ldI G σ b (ii (3 + 6 * n) + 1)).bind fun v193 => (ho_f σ (O + 195) 6).bind fun _ => bd2 (ho_ck σ (f_Md_count G N σ (O + 195) v193)) fun σ195 v196 => if v192 = v196 then f_Lw_law_j1137_in53 G N σ195 b O (O + 195) (O + 226) (ii (3 + 6 * n)) else some (.inr (.inr (σ195, 0)))) := by
  obtain ⟨σ2, v, a1, a2, a3, a4, ⟨f5, a5⟩, a6⟩ := count_S (N := N) (x := xs (3 + 6 * n + 1)) hg
  have hw := hg.1.1.1
  refine ⟨σ2, w, C, cc, bf, W, PL, ρ, dr, ?_, a6⟩
  rw [show ii (3 + 6 * n) + 1 = ii (3 + 6 * n + 1) from ii_add _ 1, scr_ld hw hb hx (show 3 + 6 * n + 1 < L by omega) hL, bd_S, c_f hg.1.2.1, bd_S, a1, bd_S, bd_S, a5, bd_S, a2, ck_S a3 a4, bd2_S, if_pos rfl]
  unfold f_Lw_law_j1137_in53
  rw [x6]
/-- one turn -/
theorem lw_turn (hg : good G σ w O n C cc bf W PL ρ dr) (hr : roomy G O n) (ht : gtab G) (hA : gA G 4 < gB G) (hb : b < gB G) (hx : gR G b = some (L, xs)) (hL : L ≤ 3075) (hn : 9 + 6 * n ≤ L) (hN : 1001 < N) : nxt G O n (f_Lw_law_l53 G N b O (O + 195) (O + 226) (σ, ii (3 + 6 * n))) := by
  have hw := hg.1.1.1
  have e6 : ¬ ii L - 6 < ii (3 + 6 * n) := by
    rw [show ii L - 6 = ii (L - 6) from ii_sub (b := 6) (by omega), ii_lt (by omega) (by omega)]
    omega
  unfold f_Lw_law_l53
  dsimp only
  rw [scr_ln hw hb hx, bd_S, if_neg e6, scr_ld hw hb hx (by omega) hL, bd_S]
  by_cases h0 : xs (3 + 6 * n) &&& 15 = 0
  · rw [if_pos h0]
    exact lw_chain hg hr ht hA hb hx hL hn hN
  rw [if_neg h0]
  by_cases h1 : xs (3 + 6 * n) &&& 15 = 1
  · rw [if_pos h1]
    exact lw_tick hg hr ht hA hb hx hL hn hN
  rw [if_neg h1]
  by_cases h2 : xs (3 + 6 * n) &&& 15 = 2
  · rw [if_pos h2]
    exact lw_load hg hr ht hA hb hx hL hn hN
  rw [if_neg h2]
  by_cases h3 : xs (3 + 6 * n) &&& 15 = 3
  · rw [if_pos h3]
    exact lw_digest hg hr ht hA hb hx hL hn hN
  rw [if_neg h3]
  by_cases h4 : xs (3 + 6 * n) &&& 15 = 4
  · rw [if_pos h4]
    exact lw_send hg hr ht hA hb hx hL hn hN
  rw [if_neg h4]
  by_cases h5 : xs (3 + 6 * n) &&& 15 = 5
  · rw [if_pos h5]
    exact lw_root hg hr ht hA hb hx hL hn hN
  rw [if_neg h5]
  by_cases h6 : xs (3 + 6 * n) &&& 15 = 6
  · rw [if_pos h6]
    exact lw_packet hg hr ht hA hb hx hL hn hN
  rw [if_neg h6]
  by_cases h7 : xs (3 + 6 * n) &&& 15 = 7
  · rw [if_pos h7]
    exact lw_key hg hr ht hA hb hx hL hn hN
  rw [if_neg h7]
  by_cases h8 : xs (3 + 6 * n) &&& 15 = 8
  · rw [if_pos h8]
    exact lw_join hg hr hb hx hL hn hN
  rw [if_neg h8]
  by_cases h9 : xs (3 + 6 * n) &&& 15 = 9
  · rw [if_pos h9]
    exact lw_drift hg hr ht hA hb hx hL hn hN
  rw [if_neg h9]
  by_cases h10 : xs (3 + 6 * n) &&& 15 = 10
  · rw [if_pos h10]
    exact lw_arrive hg hr ht hA hb hx hL hn hN
  rw [if_neg h10]
  by_cases h11 : xs (3 + 6 * n) &&& 15 = 11
  · rw [if_pos h11]
    exact lw_receiver hg hr ht hA hb hx hL hn hN
  rw [if_neg h11]
  by_cases h12 : xs (3 + 6 * n) &&& 15 = 12
  · rw [if_pos h12]
    exact lw_released hg hr ht hA hb hx hL hn hN
  rw [if_neg h12]
  by_cases h13 : xs (3 + 6 * n) &&& 15 = 13
  · rw [if_pos h13]
    exact lw_releasedByte hg hr ht hA hb hx hL hn hN
  rw [if_neg h13]
  by_cases h14 : xs (3 + 6 * n) &&& 15 = 14
  · rw [if_pos h14]
    exact lw_count hg hb hx hL hn
  rw [if_neg h14]
  refine ⟨σ, w, C, cc, bf, W, PL, ρ, dr, ?_, hg.succ⟩
  unfold f_Lw_law_j1137_in53
  rw [x6]
theorem lw_loop (hg : good G σ w O 0 C cc bf W PL ρ dr) (hr : gB G = O ∧ gC G = O + 601024 ∧ gS G = 7293000) (ht : gtab G) (hA : gA G 4 < gB G) (hb : b < gB G) (hx : gR G b = some (L, xs)) (hL : L ≤ 3075) (hN : 1001 < N) : ∃ σ', ho_it (f_Lw_law_l53 G N b O (O + 195) (O + 226)) N (σ, 3) = some (.inl σ') := by
  have key : ∃ e, ho_it (f_Lw_law_l53 G N b O (O + 195) (O + 226)) N (σ, 3) = some e ∧ ∃ σ', e = .inl σ' := by
    refine it_ex ((L - 3) / 6) (fun n s => ∃ σ2 w2 C cc bf W PL ρ dr, s = (σ2, ii (3 + 6 * n)) ∧ good G σ2 w2 O n C cc bf W PL ρ dr) _ ?_ ?_ (by omega) ⟨σ, w, C, cc, bf, W, PL, ρ, dr, rfl, hg⟩
    · rintro n s hn ⟨σ2, w2, C2, cc2, bf2, W2, PL2, ρ2, dr2, rfl, g2⟩
      obtain ⟨σ3, w3, C3, cc3, bf3, W3, PL3, ρ3, dr3, e, g3⟩ := lw_turn (N := N) (b := b) g2 ⟨hr.1, hr.2.1, hr.2.2, by omega⟩ ht hA hb hx hL (by omega) hN
      exact ⟨_, e, σ3, w3, C3, cc3, bf3, W3, PL3, ρ3, dr3, rfl, g3⟩
    · rintro s ⟨σ2, w2, C2, cc2, bf2, W2, PL2, ρ2, dr2, rfl, g2⟩
      refine ⟨.inl σ2, ?_, σ2, rfl⟩
      unfold f_Lw_law_l53
      dsimp only
      rw [scr_ln g2.1.1.1 hb hx, bd_S, if_pos]
      rw [Int32.lt_iff_toInt_lt, Int32.toInt_sub, ii_toInt (by omega), ii_toInt (by omega), show (6 : Int32).toInt = 6 from rfl, Int.bmod_eq_of_le (by omega) (by omega)]
      omega
  obtain ⟨e, k1, σ', rfl⟩ := key
  exact ⟨σ', k1⟩
end LW
