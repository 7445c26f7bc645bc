/-! the law's body: what stands between two calls, and the steps that it alone has -/
theorem Inv.x_kIn {σ : St} (h : Inv σ) : kIn σ := h.1.1
theorem Inv.x_rIn {σ : St} (h : Inv σ) : rIn σ := h.1.2.1
theorem Inv.x_dIn {σ : St} (h : Inv σ) : dIn σ := h.1.2.2.1
theorem Inv.x_nOK {σ : St} (h : Inv σ) : nOK σ := h.2.2.1.1
theorem Inv.x_rkOK {σ : St} (h : Inv σ) : rkOK σ := h.2.2.1.2.1
theorem Inv.x_snd1 {σ : St} (h : Inv σ) : snd1 σ := h.sound.1
theorem Inv.x_snd3 {σ : St} (h : Inv σ) : snd3 σ := h.sound.2.2.1
theorem Inv.x_fiOK {σ : St} (h : Inv σ) : fiOK σ := h.2.2.2.1.1
theorem Inv.x_hIn {σ : St} (h : Inv σ) : hIn σ := h.2.2.2.2.1.1
theorem Inv.x_hLe {σ : St} (h : Inv σ) : hLe σ := h.2.2.2.2.1.2.1
theorem Inv.x_hOK {σ : St} (h : Inv σ) : hOK σ := h.2.2.2.2.1.2.2
theorem Inv.x_bOK {σ : St} (h : Inv σ) : bOK σ := h.2.2.2.2.2.1.1
theorem Inv.x_bIn {σ : St} (h : Inv σ) : bIn σ := h.2.2.2.2.2.1.2
theorem Inv.x_pOK {σ : St} (h : Inv σ) : pOK σ := i_le.mpr h.2.2.2.2.2.2.1.1.1
theorem Inv.x_seg {σ : St} (h : Inv σ) : 0 ≤ σ.seg := i_le.mpr h.2.2.2.2.2.2.2.1.1
theorem Inv.x_oOK {σ : St} (h : Inv σ) : oOK σ := h.2.2.2.2.2.2.2.2.2.1
theorem Inv.x_ch {σ : St} (h : Inv σ) : ∀ k, vp_nar .char (σ.order k) = σ.order k := h.2.2.2.2.2.2.2.2.2.2
theorem inv_if {cd : Nat} {nx σ : St} (h : Inv σ) (h1 : cd = 0 → Inv nx) : Inv (if cd = 0 then nx else σ) := by
  by_cases c : cd = 0
  · rw [if_pos c]
    exact h1 c
  · rw [if_neg c]
    exact h
theorem ite_same {cd : Nat} (σ : St) : (if cd = 0 then σ else σ) = σ := by
  by_cases c : cd = 0
  · rw [if_pos c]
  · rw [if_neg c]
/-- class, model and the two rows of answers, side by side -/
def LT (g : Gl) (mC mM lo lD : Nat) (th : Int32) (fl : Nat → Int64) (fd : Nat → UInt64) (ω : Wd) (σ : St) : Prop := ∃ ωc ωm ωo adc x adm y, RepC g adc x σ ωc ∧ adc .main = mC ∧ RepM g adm y σ ωm ∧ adm .main = mM ∧ y.th = th ∧ grOK σ y ∧ ω = wjn ωc (wjn ωm ωo) ∧ djn ωc (wjn ωm ωo) ∧ djn ωm ωo ∧ ωo lo = some (.inl (g.2.1 4, 1, .inr (.inl fl))) ∧ ωo lD = some (.inl (g.2.1 5, 1, .inr (.inr (.inr (.inl fd)))))
def LH (g : Gl) (mC mM lo lD : Nat) (ω : Wd) (σ : St) : Prop := ∃ th fl fd, LT g mC mM lo lD th fl fd ω σ
theorem vp_updL_s (f : Nat → Int64) (k : Nat) (v : Int64) : vp_updL f k v k = v := by
  unfold vp_updL
  exact if_pos rfl
theorem vf_upd_s (f : Nat → UInt64) (k : Nat) (v : UInt64) : vf_upd f k v k = v := by
  unfold vf_upd
  exact if_pos rfl
/-- the rows of answers behind a call of the class -/
theorem out_L {g : Gl} {ωc ωm ωo w2 : Wd} {lo lD : Nat} {cd : Nat} {vl : Int64} {fl : Nat → Int64} {fd : Nat → UInt64} (hd : djn ωm ωo) (hlo : ωo lo = some (.inl (g.2.1 4, 1, .inr (.inl fl)))) (hlD : ωo lD = some (.inl (g.2.1 5, 1, .inr (.inr (.inr (.inl fd)))))) (hd3 : djn ωc w2)
    (hw : w2 = if cd = 0 then wup (wjn ωm ωo) lo (.inl (g.2.1 4, 1, .inr (.inl (vp_updL fl 0 vl)))) else wjn ωm ωo) : ∃ ωo2 fl2, w2 = wjn ωm ωo2 ∧ djn ωm ωo2 ∧ ωo2 lo = some (.inl (g.2.1 4, 1, .inr (.inl fl2))) ∧ ωo2 lD = some (.inl (g.2.1 5, 1, .inr (.inr (.inr (.inl fd))))) ∧ (cd = 0 → fl2 0 = vl) := by
  by_cases c : cd = 0
  · rw [if_pos c] at hw
    have h1 := djn_at hd hlo
    have hne : lD ≠ lo := fun z => by
      rw [z, hlo] at hlD
      simp at hlD
    exact ⟨_, _, hw.trans (wjn_up h1), djn_up hd h1, wup_s _ _ _, by rw [wup_n hne]; exact hlD, fun _ => vp_updL_s _ _ _⟩
  · rw [if_neg c] at hw
    exact ⟨ωo, fl, hw, hd, hlo, hlD, fun z => absurd z c⟩
theorem out_D {g : Gl} {ωc ωm ωo w2 : Wd} {lo lD : Nat} {cd : Nat} {vl : UInt64} {fl : Nat → Int64} {fd : Nat → UInt64} (hd : djn ωm ωo) (hlo : ωo lo = some (.inl (g.2.1 4, 1, .inr (.inl fl)))) (hlD : ωo lD = some (.inl (g.2.1 5, 1, .inr (.inr (.inr (.inl fd)))))) (hd3 : djn ωc w2)
    (hw : w2 = if cd = 0 then wup (wjn ωm ωo) lD (.inl (g.2.1 5, 1, .inr (.inr (.inr (.inl (vf_upd fd 0 vl)))))) else wjn ωm ωo) : ∃ ωo2 fd2, w2 = wjn ωm ωo2 ∧ djn ωm ωo2 ∧ ωo2 lo = some (.inl (g.2.1 4, 1, .inr (.inl fl))) ∧ ωo2 lD = some (.inl (g.2.1 5, 1, .inr (.inr (.inr (.inl fd2))))) ∧ (cd = 0 → fd2 0 = vl) := by
  by_cases c : cd = 0
  · rw [if_pos c] at hw
    have h1 := djn_at hd hlD
    have hne : lo ≠ lD := fun z => by
      rw [z, hlD] at hlo
      simp at hlo
    exact ⟨_, _, hw.trans (wjn_up h1), djn_up hd h1, by rw [wup_n hne]; exact hlo, wup_s _ _ _, fun _ => vf_upd_s _ _ _⟩
  · rw [if_neg c] at hw
    exact ⟨ωo, fd, hw, hd, hlo, hlD, fun z => absurd z c⟩
theorem an_63 (x : Int32) : ∃ q, q < 64 ∧ x &&& 63 = nI q := by
  refine ⟨(x.toBitVec &&& 63#32).toNat, ?_, ?_⟩
  · rw [BitVec.toNat_and]
    exact Nat.lt_of_le_of_lt Nat.and_le_right (by decide)
  · apply Int32.toBitVec_inj.mp
    show x.toBitVec &&& 63#32 = BitVec.ofNat 32 _
    rw [BitVec.ofNat_toNat, BitVec.setWidth_eq]
/-- what the law asks of the start: the script's row, the room -/
def LX (g : Gl) (ω0 : Wd) (sz0 : Nat) (s : State) (b Ls : Nat) (xs : Nat → Int32) : Prop := va_X b Ls xs s s.heap ∧ b < s.heap.size ∧ ¬ frA ω0 sz0 b ∧ Ls ≤ 2560
section LAWB
variable {p : Program} {l : Launch} {e : Env} {R : Room} {s : State} {m : MethodId} {args : Array Value} {below : List Frame} {meth : Method} {c : Code} {cc : ByteArray} {nL : Nat} {own : String} {g : Gl} {ω0 : Wd} {sz0 : Nat} {Q : State → Prop} {ω : Wd} {k n pc pc' : Nat} {L : List (Nat × Value)} {rest : List Value}
theorem s_sldX (hC : Cx p l e R s m args below meth c cc nL own g ω0 sz0) {b Ls : Nat} {xs : Nat → Int32} (hX : LX g ω0 sz0 s b Ls xs) {i : Int32} (j : Nat) (hi : i = nI j) (hj : j < Ls) (hdg : decode cc pc = .ok (.iaload, 1)) (hp : pc + 1 = pc')
    (kk : WP p l e R s m args below meth c g ω0 sz0 Q nL ω k n pc' L (.int (xs j) :: rest)) : WP p l e R s m args below meth c g ω0 sz0 Q nL ω k n pc L (.int i :: .ref b :: rest) := fun H locs ls hw hk hS hl => by
  subst hp
  obtain ⟨h1, h2, h3, h4⟩ := hX
  have hjj : j < 2 ^ 31 := by omega
  refine va_sld hC.1 hC.2.1 h1 h2 h3 hS (by rw [hi]; exact vp_in_nI hj (by omega)) hdg ?_
  rw [hi, nI_clamp hjj]
  exact kk H locs ls hw hk hS hl
theorem s_slenX (hC : Cx p l e R s m args below meth c cc nL own g ω0 sz0) {b Ls : Nat} {xs : Nat → Int32} (hX : LX g ω0 sz0 s b Ls xs) (hdg : decode cc pc = .ok (.arraylength, 1)) (hp : pc + 1 = pc')
    (kk : WP p l e R s m args below meth c g ω0 sz0 Q nL ω k n pc' L (.int (nI Ls) :: rest)) : WP p l e R s m args below meth c g ω0 sz0 Q nL ω k n pc L (.ref b :: rest) := fun H locs ls hw hk hS hl => by
  subst hp
  obtain ⟨h1, h2, h3, h4⟩ := hX
  exact va_slen hC.1 hC.2.1 h1 h2 h3 hS hdg (kk H locs ls hw hk hS hl)
theorem s_tabIn (hC : Cx p l e R s m args below meth c cc nL own g ω0 sz0) {dflt lo hi : Int} {offs : Array Int} {len : Nat} {x : Int32} {off : Int} {tgt : Nat} (hdg : decode cc pc = .ok (.tableswitch dflt lo hi offs, len)) (h1 : ¬ x.toInt < lo) (h2 : ¬ hi < x.toInt) (ho : offs[(x.toInt - lo).toNat]? = some off) (ht : (pc : Int) + off = (tgt : Int))
    (kk : WP p l e R s m args below meth c g ω0 sz0 Q nL ω k n tgt L rest) : WP p l e R s m args below meth c g ω0 sz0 Q nL ω k n pc L (.int x :: rest) := fun H locs ls hw hk hS hl => lv_tableIn hC.1 hC.2.1 hdg h1 h2 ho ht (kk H locs ls hw hk hS hl)
theorem s_tabOut (hC : Cx p l e R s m args below meth c cc nL own g ω0 sz0) {dflt lo hi : Int} {offs : Array Int} {len : Nat} {x : Int32} {tgt : Nat} (hdg : decode cc pc = .ok (.tableswitch dflt lo hi offs, len)) (h : x.toInt < lo ∨ hi < x.toInt) (ht : (pc : Int) + dflt = (tgt : Int))
    (kk : WP p l e R s m args below meth c g ω0 sz0 Q nL ω k n tgt L rest) : WP p l e R s m args below meth c g ω0 sz0 Q nL ω k n pc L (.int x :: rest) := fun H locs ls hw hk hS hl => lv_tableOut hC.1 hC.2.1 hdg h ht (kk H locs ls hw hk hS hl)
/-- a number that is asked to be no 0: if it is, 0, else 1 -/
theorem s_nz (hC : Cx p l e R s m args below meth c cc nL own g ω0 sz0) {x : Int32} {tf tj : Nat} (d0 : decode cc pc = .ok (.ifCond .eq 7, 3)) (d1 : decode cc (pc + 3) = .ok (.iconst 1, 1)) (d2 : decode cc (pc + 4) = .ok (.goto 4, 3)) (d3 : decode cc (pc + 7) = .ok (.iconst 0, 1)) (hf : pc + 7 = tf) (hj : pc + 8 = tj)
    (kk : WP p l e R s m args below meth c g ω0 sz0 Q nL ω k n tj L (.int (bI (decide (¬ x = 0))) :: rest)) : WP p l e R s m args below meth c g ω0 sz0 Q nL ω k n pc L (.int x :: rest) := by
  subst hf hj
  refine z_if_eq hC (tgt := pc + 7) d0 rfl (by omega) (fun z => ?_) (fun z => ?_)
  · refine s_iconst hC (v := 0) d3 rfl (by decide) ?_
    rw [show bI (decide (¬ x = 0)) = 0 by simp [z, bI]] at kk
    exact kk
  · refine s_iconst hC (v := 1) d1 rfl (by decide) ?_
    refine s_goto hC (tgt := pc + 8) d2 (by omega) ?_
    rw [show bI (decide (¬ x = 0)) = 1 by simp [z, bI]] at kk
    exact kk
theorem lw_q0 {cd : Nat} (hcd : cd < 2 ^ 31) (h : nI cd = 0) : cd = 0 := nI_eq0 hcd h
abbrev lwL (b mC mM lo lD : Nat) (i : Int32) : List (Nat × Value) := [(5, .int i), (0, .ref b), (1, .ref mC), (2, .ref mM), (3, .ref lo), (4, .ref lD)]
/-- behind the model's answer, an int: thrown() asked, then the answers compared -/
theorem lw_tail (hC : Cx p l e R s m args below meth c cL_law 9 "BoringheadLaw" g ω0 sz0) (hRf : 60 ≤ R.frames) (hRl : 2000 ≤ R.locals) {k1 n1 : Nat} (hk1 : k1 ≤ k) (hn1 : n1 ≤ n) (hRk : k ≤ R.cells) (hRn : n ≤ R.slots) {b mC mM lo lD : Nat} {i : Int32} {cd : Nat} (hcd : cd < 2 ^ 31) {fl : Nat → Int64} {fd : Nat → UInt64} {σ : St} (hI : Inv σ) (hT : LT g mC mM lo lD (nI cd) fl fd ω σ) {v vl : Int32} (hv : cd = 0 → fl 0 = vl.toInt64 ∧ v = vl)
    {off : Int} {t1 t2 : Nat} (e1 : pc + 13 = t1) (e2 : pc + 30 = t2) (ho : (t2 : Int) + off = 2920)
    (d0 : decode cL_law pc = .ok (.istore 7, 2)) (d2 : decode cL_law (pc + 2) = .ok (.aload_n 2, 1)) (d3 : decode cL_law (pc + 3) = .ok (.invokevirtual 158, 3)) (d6 : decode cL_law (pc + 6) = .ok (.iload 6, 2)) (d8 : decode cL_law (pc + 8) = .ok (.if_icmp .eq 5, 3)) (d13 : decode cL_law (pc + 13) = .ok (.iload 6, 2)) (d15 : decode cL_law (pc + 15) = .ok (.ifCond .ne 15, 3)) (d18 : decode cL_law (pc + 18) = .ok (.aload_n 3, 1)) (d19 : decode cL_law (pc + 19) = .ok (.iconst 0, 1)) (d20 : decode cL_law (pc + 20) = .ok (.laload, 1)) (d21 : decode cL_law (pc + 21) = .ok (.iload 7, 2)) (d23 : decode cL_law (pc + 23) = .ok (.i2l, 1)) (d24 : decode cL_law (pc + 24) = .ok (.lcmp, 1)) (d25 : decode cL_law (pc + 25) = .ok (.ifCond .eq 5, 3)) (d30 : decode cL_law (pc + 30) = .ok (.goto off, 3))
    (kk : ∀ ω' σ', Inv σ' → LH g mC mM lo lD ω' σ' → WP p l e R s m args below meth c g ω0 sz0 Q 9 ω' k n 2920 (lwL b mC mM lo lD i) []) :
    WP p l e R s m args below meth c g ω0 sz0 Q 9 ω k1 n1 pc [(6, .int (nI cd)), (5, .int i), (0, .ref b), (1, .ref mC), (2, .ref mM), (3, .ref lo), (4, .ref lD)] [.int v] := by
  obtain ⟨ωc, ωm, ωo, adc, x, adm, y, hRc, hmC, hRm, hmM, hth, hgr, rfl, hd1, hd2, hlo, hlD⟩ := hT
  have fin : ∀ v9, WP p l e R s m args below meth c g ω0 sz0 Q 9 (wjn ωc (wjn ωm ωo)) k1 n1 (pc + 30) [(7, .int v9), (6, .int (nI cd)), (5, .int i), (0, .ref b), (1, .ref mC), (2, .ref mM), (3, .ref lo), (4, .ref lD)] [] := fun v9 => by
    refine s_goto hC (tgt := 2920) d30 (by omega) ?_
    refine WP.sub (L' := lwL b mC mM lo lD i) [2, 3, 4, 5, 6, 7] rfl ?_
    exact WP.widen hk1 hn1 (kk _ σ hI ⟨_, _, _, ωc, ωm, ωo, adc, x, adm, y, hRc, hmC, hRm, hmM, rfl, hgr, rfl, hd1, hd2, hlo, hlD⟩)
  refine s_istore hC (L' := [(7, _), (6, _), (5, _), (0, _), (1, _), (2, _), (3, _), (4, _)]) d0 rfl (le_b rfl) rfl ?_
  refine s_aload_n hC d2 rfl rfl 5 rfl ?_
  have ct := CT.mid (ct_X11_thrown l g _ adm y σ hRm) hd1 hd2
  rw [hmM] at ct
  refine s_callV hC ct ce_X11_thrown cs_X11 ((wjn_r (djn_at hd1 (wjn_l (hmM ▸ RepM.f_main hRm)))).trans (wjn_l (hmM ▸ RepM.f_main hRm))) tw_1236 rfl rfl ⟨⟨Nat.le_trans (le_b rfl) hRf, Nat.le_trans (le_b rfl) hRl⟩, Nat.le_trans hk1 hRk, Nat.le_trans hn1 hRn⟩ (le_b rfl) d3 rfl (fun r w h9 => ?_) (fun E w h9 => h9.choose_spec.1.elim)
  obtain ⟨w1, ⟨rfl, rfl⟩, rfl, -, -⟩ := h9
  rw [hth]
  refine s_iload hC d6 rfl 1 rfl ?_
  refine s_icmp_eq hC (tgt := pc + 13) d8 rfl (by omega) (fun _ => ?_) (fun z => absurd rfl z)
  refine s_iload hC d13 rfl 1 rfl ?_
  refine z_if_ne hC (tgt := pc + 30) d15 rfl (by omega) (fun _ => fin v) (fun z => ?_)
  obtain ⟨v1, v2⟩ := hv (lw_q0 hcd z)
  refine s_aload_n hC d18 rfl rfl 6 rfl ?_
  refine s_iconst hC (v := 0) d19 rfl (by decide) ?_
  refine s_lald hC ((wjn_r (djn_at hd1 ((wjn_r (djn_at hd2 hlo)).trans hlo))).trans ((wjn_r (djn_at hd2 hlo)).trans hlo)) (vp_in_nI (n := 0) (by omega) (by omega)) d20 rfl ?_
  refine s_iload hC d21 rfl 0 rfl ?_
  refine s_i2l hC d23 rfl rfl ?_
  refine s_lcmp hC d24 rfl ?_
  refine z_if_eq hC (tgt := pc + 30) d25 rfl (by omega) (fun _ => fin v) (fun z => absurd ?_ z)
  rw [show Int32.toNatClampNeg 0 = 0 from rfl, v1, v2]
  exact (lg_cmp_eq _ _).mpr rfl
end LAWB
