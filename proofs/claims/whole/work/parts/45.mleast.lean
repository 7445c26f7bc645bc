section LOOPK
variable {p : Program} {l : Launch} {e : Env} {R : Room} {s : State} {m : MethodId} {args : Array Value} {below : List Frame} {meth : Method} {c : Code} {nL : Nat} {g : Gl} {ω0 : Wd} {sz0 : Nat} {Q : State → Prop} {pc : Nat} {st : List Value}
theorem wp_loopk {σ : Type} (kf nf : σ → Nat) (I : σ → Prop) (ωf : σ → Wd) (Lf : σ → List (Nat × Value)) (μ : σ → Nat) (x0 : σ) (h0 : I x0) (hs : ∀ x, I x → (∀ y, I y → μ y < μ x → WP p l e R s m args below meth c g ω0 sz0 Q nL (ωf y) (kf y) (nf y) pc (Lf y) st) → WP p l e R s m args below meth c g ω0 sz0 Q nL (ωf x) (kf x) (nf x) pc (Lf x) st) : WP p l e R s m args below meth c g ω0 sz0 Q nL (ωf x0) (kf x0) (nf x0) pc (Lf x0) st := by
  have key : ∀ n x, μ x < n → I x → WP p l e R s m args below meth c g ω0 sz0 Q nL (ωf x) (kf x) (nf x) pc (Lf x) st := by
    intro n
    induction n with
    | zero => intro x h _; omega
    | succ n ih => intro x h hx; exact hs x hx (fun y hy hl => ih y (by omega) hy)
  exact key (μ x0 + 1) x0 (Nat.lt_succ_self _) h0
end LOOPK
/-- all but one cell stays -/
def keepP (ω : Wd) (fa : Nat) (w : Wd) : Prop := ∀ b, ω b ≠ none → b ≠ fa → w b = ω b
theorem keepP.rf (ω : Wd) (fa : Nat) : keepP ω fa ω := fun _ _ _ => rfl
theorem keepP.new {ω w : Wd} {fa q : Nat} (h : keepP ω fa w) (hq : w q = none) (e : va_E) : keepP ω fa (wup w q e) := fun b hb hf => by
  have h1 := h b hb hf
  rw [wup_n (fun z => hb (by rw [← h1, z]; exact hq))]
  exact h1
theorem keepP.call {ω W w : Wd} {fa q : Nat} {e : va_E} (h : keepP ω fa W) (hq : W q = none) (h2 : keepP (wup W q e) q w) : keepP ω fa w := fun b hb hf => by
  have h1 := h b hb hf
  have hbq : b ≠ q := fun z => hb (by rw [← h1, z]; exact hq)
  have h3 : wup W q e b = ω b := (wup_n hbq).trans h1
  rw [h2 b (by rw [h3]; exact hb) hbq]
  exact h3
theorem keepP.up {ω w : Wd} {fa : Nat} (h : keepP ω fa w) (e : va_E) : keepP ω fa (wup w fa e) := fun b hb hf => (wup_n hf).trans (h b hb hf)
theorem keepP.get {ω w : Wd} {fa b : Nat} {e : va_E} (h : keepP ω fa w) (hb : ω b = some e) (hf : b ≠ fa) : w b = some e := (h b (by rw [hb]; simp) hf).trans hb
theorem RepM.keep {g : Gl} {ad : Iy → Nat} {y : Ey} {s : St} {ω w : Wd} {fa : Nat} (h : RepM g ad y s ω) (hn : ∀ k, VM y s k → ad k ≠ fa) (hk : keepP ω fa w) : RepM g ad y s w := ⟨fun k hv => hk.get (h.c k hv) (hn k hv), h.inj, h.lB, h.lH, h.lO, h.hg, h.st⟩
def lsS (a b c d : Int64) : Nat → Int64 := vp_updL (vp_updL (vp_updL (vp_updL (fun _ => 0) (Int32.toNatClampNeg 0) a) (Int32.toNatClampNeg 1) b) (Int32.toNatClampNeg 2) c) (Int32.toNatClampNeg 3) d
def lsR (s : St) (pl : Nat) (f : Nat → Int64) (r : Nat) : Int64 := f (Int32.toNatClampNeg 0) + (stF [0, 7, 10, 7, 0, -7, -10, -7] (nI r).toNatClampNeg).toInt64 + s.pR.toInt64 - (s.bR (nI pl).toNatClampNeg).toInt64
def lsU (s : St) (pl : Nat) (f : Nat → Int64) (r : Nat) : Int64 := f (Int32.toNatClampNeg 1) + (stF [10, 7, 0, -7, -10, -7, 0, 7] (nI r).toNatClampNeg).toInt64 + s.pU.toInt64 - (s.bU (nI pl).toNatClampNeg).toInt64
def lsA (s : St) (pl : Nat) (f : Nat → Int64) (r : Nat) : Nat → Int64 := lsS (lsR s pl f r) (lsU s pl f r) (f (Int32.toNatClampNeg 2) + lsR s pl f r) (f (Int32.toNatClampNeg 3) + lsU s pl f r)
def lsQ (t : Nat → Int64) : Int64 := t (Int32.toNatClampNeg 2) * t (Int32.toNatClampNeg 2) + t (Int32.toNatClampNeg 3) * t (Int32.toNatClampNeg 3)
def lsF (G : Nat → Int64) (ah fi : Int32) : Nat → Int64 × Int32
  | 0 => (-1, fi)
  | r + 1 => if nI r = ah then lsF G ah fi r else if (lsF G ah fi r).1 = -1 then (G r, nI r) else if (lsF G ah fi r).1 ≤ G r then lsF G ah fi r else (G r, nI r)
def lsG (s : St) : Nat → Nat → (Nat → Int64) → Nat → Int64
  | 0, pl, f, r => lsQ (lsA s pl f r) + 0
  | m + 1, pl, f, r => lsQ (lsA s pl f r) + (lsF (lsG s m (pl + 1) (lsA s pl f r)) (nI r) 0 8).1
set_option maxHeartbeats 4000000 in
set_option maxRecDepth 100000 in
theorem ct_least1 (l : Launch) (g : Gl) (ω : Wd) (ad : Iy → Nat) (y : Ey) (σ : St) (hR : RepM g ad y σ ω) (pl : Nat) (hpl : pl + 1 ≤ 200) (ah : Int32) (a : Nat) (f : Nat → Int64) (hat : ω a = some (.inl (g.2.1 4, 4, .inr (.inl f)))) (fa : Nat) (F0 : Nat → Int32) (fi : Int32) (hF0 : F0 0 = fi) (hfa : ω fa = some (.inl (g.2.1 0, 1, .inl F0))) (haf : a ≠ fa) (hn_fa : ∀ k, VM y σ k → ad k ≠ fa) : CT l g yX11_least cX11_least 16 (some .long) 1 35 8 32 [.ref (ad .main), .int (nI pl), .int 1, .int ah, .ref a, .ref fa] ω (fun r w => r = some (.long (lsF (lsG σ 0 pl f) ah fi 8).1) ∧ ∃ F, F 0 = (lsF (lsG σ 0 pl f) ah fi 8).2 ∧ w fa = some (.inl (g.2.1 0, 1, .inl F)) ∧ keepP ω fa w) (nox) := by
  refine CT.of (own := "BoringheadModel") rfl rfl (le_b rfl) rfl ?_
  intro p e s m args below meth c sz0 hC hr htab hin
  refine s_ldc2 hC tw_1703 dX11_least_0 rfl ?_
  refine s_lstore hC (L' := [(6, _), (0, _), (1, _), (2, _), (3, _), (4, _), (5, _)]) dX11_least_3 rfl (le_b rfl) rfl ?_
  refine s_iconst hC (v := 0) dX11_least_5 rfl (by decide) ?_
  refine s_istore hC (L' := [(8, _), (6, _), (0, _), (1, _), (2, _), (3, _), (4, _), (5, _)]) dX11_least_6 rfl (le_b rfl) rfl ?_
  refine WP.sub (L' := [(0, _), (1, _), (2, _), (3, _), (4, _), (5, _), (6, _), (8, _)]) [2, 3, 4, 5, 6, 7, 1, 0] rfl ?_
  refine wp_loopk (kf := fun (b9, i, W, F, j) => 1 * j) (nf := fun (b9, i, W, F, j) => 4 * j) (σ := Int64 × Int32 × Wd × (Nat → Int32) × Nat) (I := fun (b9, i, W, F, j) => j ≤ 8 ∧ i = nI j ∧ b9 = (lsF (lsG σ 0 pl f) ah fi j).1 ∧ F 0 = (lsF (lsG σ 0 pl f) ah fi j).2 ∧ W fa = some (.inl (g.2.1 0, 1, .inl F)) ∧ keepP ω fa W) (ωf := fun (b9, i, W, F, j) => W) (Lf := fun (b9, i, W, F, j) => [(0, .ref (ad .main)), (1, .int (nI pl)), (2, .int 1), (3, .int ah), (4, .ref a), (5, .ref fa), (6, .long b9), (8, .int i)]) (μ := fun (b9, i, W, F, j) => 8 - j) (x0 := (_, _, _, F0, 0)) ?_ ?_
  · exact ⟨Nat.zero_le _, rfl, rfl, hF0, hfa, keepP.rf _ _⟩
  · rintro ⟨b9, i, W, F, j⟩ hI ih
    dsimp only at hI ih ⊢
    obtain ⟨hj, rfl, rfl, hF, hWf, hWk⟩ := hI
    have hin9 : ¬ (8 : Int32) ≤ nI j → j < 8 := fun h => by
      have h2 := mt (nI_leI (by decide : 8 < 2 ^ 31) (by omega)).mpr h
      omega
    have hW := RepM.keep hR hn_fa hWk
    have haW := hWk.get hat haf
    refine s_iload hC dX11_least_8 rfl 7 rfl ?_
    refine s_bipush hC (v := 8) dX11_least_10 rfl (by decide) ?_
    refine z_icmp_ge hC (tgt := 197) dX11_least_12 rfl (by decide) (fun c_1 => ?_) (fun c_1 => ?_)
    · refine WP.widen (k1 := 8) (n1 := 32) (by omega) (by omega) ?_
      obtain rfl : j = 8 := by
        have h2 := (nI_leI (by decide : 8 < 2 ^ 31) (by omega)).mp c_1
        omega
      refine s_lload hC dX11_least_197 rfl 6 rfl ?_
      refine s_lret hC hr dX11_least_199 (le_b rfl) (le_b rfl) ?_
      exact ⟨rfl, F, hF, hWf, hWk⟩
    · refine s_iload_n hC dX11_least_15 rfl rfl 2 rfl ?_
      refine z_if_le hC (tgt := 197) dX11_least_16 rfl (by decide) (fun c_2 => ((absurd c_2 (by decide) : False)).elim) (fun c_2 => ?_)
      refine s_iload hC dX11_least_19 rfl 7 rfl ?_
      refine s_iload_n hC dX11_least_21 rfl rfl 3 rfl ?_
      refine z_icmp_eq hC (tgt := 191) dX11_least_22 rfl (by decide) (fun c_3 => ?_) (fun c_3 => ?_)
      · refine s_iinc hC (v := _ + 1) (j9 := 7) (L' := [(8, _), (0, _), (1, _), (2, _), (3, _), (4, _), (5, _), (6, _)]) dX11_least_191 rfl rfl rfl (le_b rfl) rfl ?_
        refine s_goto hC (tgt := 8) dX11_least_194 (by decide) ?_
        refine WP.sub (L' := [(0, _), (1, _), (2, _), (3, _), (4, _), (5, _), (6, _), (8, _)]) [1, 2, 3, 4, 5, 6, 7, 0] rfl ?_
        refine WP.widen (k1 := 1 * (j + 1)) (n1 := 4 * (j + 1)) (by omega) (by omega) ?_
        refine ih (_, _, _, F, j + 1) ?_ ?_
        · dsimp only
          have h9 := hin9 c_1
          have he : lsF (lsG σ 0 pl f) ah fi (j + 1) = (lsF (lsG σ 0 pl f) ah fi j) := by rw [lsF, if_pos c_3]
          rw [he]
          exact ⟨h9, nI_1 j, rfl, hF, hWf, hWk⟩
        · dsimp only
          have h9 := hin9 c_1; omega
      · refine s_aload hC dX11_least_25 rfl 4 rfl ?_
        refine s_iconst hC (v := 0) dX11_least_27 rfl (by decide) ?_
        refine s_lald hC haW (vp_in_nI (by decide : 0 < 4) (by decide)) dX11_least_28 rfl ?_
        refine s_gets hC 17 rfl tw_1629 dX11_least_29 rfl ?_
        refine s_iload hC dX11_least_32 rfl 7 rfl ?_
        refine s_ialdK hC (Or.inr ⟨17, _, _, _, _, rfl, rfl, rfl, rfl⟩) (vp_in_nI (hin9 c_1) (by decide)) dX11_least_34 rfl ?_
        refine s_i2l hC dX11_least_35 rfl rfl ?_
        refine s_ladd hC dX11_least_36 rfl ?_
        refine s_aload_n hC dX11_least_37 rfl rfl 0 rfl ?_
        refine s_getf hC cs_X11 13 tw_1262 (le_b rfl) (RepM.f_main hW) rfl dX11_least_38 rfl ?_
        refine s_i2l hC dX11_least_41 rfl rfl ?_
        refine s_ladd hC dX11_least_42 rfl ?_
        refine s_aload_n hC dX11_least_43 rfl rfl 0 rfl ?_
        refine s_getf hC cs_X11 5 tw_1254 (le_b rfl) (RepM.f_main hW) rfl dX11_least_44 rfl ?_
        refine s_iload_n hC dX11_least_47 rfl rfl 1 rfl ?_
        refine s_ialdK hC (Or.inl (RepM.f_bR hW)) (vp_in_nI (by omega : pl < 200) (by decide)) dX11_least_48 rfl ?_
        refine s_i2l hC dX11_least_49 rfl rfl ?_
        refine s_lsub hC dX11_least_50 rfl ?_
        refine s_lstore hC (L' := [(9, _), (0, _), (1, _), (2, _), (3, _), (4, _), (5, _), (6, _), (8, _)]) dX11_least_51 rfl (le_b rfl) rfl ?_
        refine s_aload hC dX11_least_53 rfl 5 rfl ?_
        refine s_iconst hC (v := 1) dX11_least_55 rfl (by decide) ?_
        refine s_lald hC haW (vp_in_nI (by decide : 1 < 4) (by decide)) dX11_least_56 rfl ?_
        refine s_gets hC 18 rfl tw_1631 dX11_least_57 rfl ?_
        refine s_iload hC dX11_least_60 rfl 8 rfl ?_
        refine s_ialdK hC (Or.inr ⟨18, _, _, _, _, rfl, rfl, rfl, rfl⟩) (vp_in_nI (hin9 c_1) (by decide)) dX11_least_62 rfl ?_
        refine s_i2l hC dX11_least_63 rfl rfl ?_
        refine s_ladd hC dX11_least_64 rfl ?_
        refine s_aload_n hC dX11_least_65 rfl rfl 1 rfl ?_
        refine s_getf hC cs_X11 14 tw_1263 (le_b rfl) (RepM.f_main hW) rfl dX11_least_66 rfl ?_
        refine s_i2l hC dX11_least_69 rfl rfl ?_
        refine s_ladd hC dX11_least_70 rfl ?_
        refine s_aload_n hC dX11_least_71 rfl rfl 1 rfl ?_
        refine s_getf hC cs_X11 6 tw_1255 (le_b rfl) (RepM.f_main hW) rfl dX11_least_72 rfl ?_
        refine s_iload_n hC dX11_least_75 rfl rfl 2 rfl ?_
        refine s_ialdK hC (Or.inl (RepM.f_bU hW)) (vp_in_nI (by omega : pl < 200) (by decide)) dX11_least_76 rfl ?_
        refine s_i2l hC dX11_least_77 rfl rfl ?_
        refine s_lsub hC dX11_least_78 rfl ?_
        refine s_lstore hC (L' := [(11, _), (9, _), (0, _), (1, _), (2, _), (3, _), (4, _), (5, _), (6, _), (8, _)]) dX11_least_79 rfl (le_b rfl) rfl ?_
        refine s_iconst hC (v := 4) dX11_least_81 rfl (by decide) ?_
        refine s_newa hC 4 (at0 := .long) (ty := .long) (N' := 4) (a0 := (4, .inr (.inl (fun _ => 0)))) rfl rfl tw_1704 (fun _ => rfl) (by decide) (by decide) (by decide) (by show _ ≤ 8; have := hin9 c_1; omega) (by show _ ≤ 32; have := hin9 c_1; omega) dX11_least_82 rfl (fun q_82 hq_82 => ?_)
        have hn_q_82 := RepM.ne hW hq_82
        refine WP.rm (RepM.new hW hq_82 _) (fun hR_q_82 => ?_)
        refine s_dup hC dX11_least_84 rfl rfl ?_
        refine s_iconst hC (v := 0) dX11_least_85 rfl (by decide) ?_
        refine s_lload hC dX11_least_86 rfl 1 rfl ?_
        refine s_last hC (wup_s _ _ _) (vp_in_nI (by decide : 0 < 4) (by decide)) dX11_least_88 rfl ?_
        refine WP.rm (RepM.by hR_q_82 hn_q_82 _) (fun hR_88 => ?_)
        refine s_dup hC dX11_least_89 rfl rfl ?_
        refine s_iconst hC (v := 1) dX11_least_90 rfl (by decide) ?_
        refine s_lload hC dX11_least_91 rfl 0 rfl ?_
        refine s_last hC (wup_s _ _ _) (vp_in_nI (by decide : 1 < 4) (by decide)) dX11_least_93 rfl ?_
        refine WP.rm (RepM.by hR_88 hn_q_82 _) (fun hR_93 => ?_)
        refine s_dup hC dX11_least_94 rfl rfl ?_
        refine s_iconst hC (v := 2) dX11_least_95 rfl (by decide) ?_
        refine s_aload hC dX11_least_96 rfl 6 rfl ?_
        refine s_iconst hC (v := 2) dX11_least_98 rfl (by decide) ?_
        refine s_lald hC ((wup_n (w_ne haW hq_82)).trans ((wup_n (w_ne haW hq_82)).trans ((wup_n (w_ne haW hq_82)).trans haW))) (vp_in_nI (by decide : 2 < 4) (by decide)) dX11_least_99 rfl ?_
        refine s_lload hC dX11_least_100 rfl 1 rfl ?_
        refine s_ladd hC dX11_least_102 rfl ?_
        refine s_last hC (wup_s _ _ _) (vp_in_nI (by decide : 2 < 4) (by decide)) dX11_least_103 rfl ?_
        refine WP.rm (RepM.by hR_93 hn_q_82 _) (fun hR_103 => ?_)
        refine s_dup hC dX11_least_104 rfl rfl ?_
        refine s_iconst hC (v := 3) dX11_least_105 rfl (by decide) ?_
        refine s_aload hC dX11_least_106 rfl 6 rfl ?_
        refine s_iconst hC (v := 3) dX11_least_108 rfl (by decide) ?_
        refine s_lald hC ((wup_n (w_ne haW hq_82)).trans ((wup_n (w_ne haW hq_82)).trans ((wup_n (w_ne haW hq_82)).trans ((wup_n (w_ne haW hq_82)).trans haW)))) (vp_in_nI (by decide : 3 < 4) (by decide)) dX11_least_109 rfl ?_
        refine s_lload hC dX11_least_110 rfl 0 rfl ?_
        refine s_ladd hC dX11_least_112 rfl ?_
        refine s_last hC (wup_s _ _ _) (vp_in_nI (by decide : 3 < 4) (by decide)) dX11_least_113 rfl ?_
        refine WP.rm (RepM.by hR_103 hn_q_82 _) (fun hR_113 => ?_)
        refine WP.of (ω' := wup W q_82 (.inl (g.2.1 4, 4, .inr (.inl (lsA σ pl f j))))) (by rw [wup_wup, wup_wup, wup_wup, wup_wup]; rfl) ?_
        have hR_114 : RepM g ad y σ (wup W q_82 (.inl (g.2.1 4, 4, .inr (.inl (lsA σ pl f j))))) := RepM.new hW hq_82 _
        have hkk : keepP ω fa (wup W q_82 (.inl (g.2.1 4, 4, .inr (.inl (lsA σ pl f j))))) := hWk.new hq_82 _
        refine s_astore hC (L' := [(13, _), (11, _), (9, _), (0, _), (1, _), (2, _), (3, _), (4, _), (5, _), (6, _), (8, _)]) dX11_least_114 rfl (le_b rfl) rfl ?_
        refine s_aload hC dX11_least_116 rfl 0 rfl ?_
        refine s_iconst hC (v := 2) dX11_least_118 rfl (by decide) ?_
        refine s_lald hC (wup_s _ _ _) (vp_in_nI (by decide : 2 < 4) (by decide)) dX11_least_119 rfl ?_
        refine s_aload hC dX11_least_120 rfl 0 rfl ?_
        refine s_iconst hC (v := 2) dX11_least_122 rfl (by decide) ?_
        refine s_lald hC (wup_s _ _ _) (vp_in_nI (by decide : 2 < 4) (by decide)) dX11_least_123 rfl ?_
        refine s_lmul hC dX11_least_124 rfl ?_
        refine s_aload hC dX11_least_125 rfl 0 rfl ?_
        refine s_iconst hC (v := 3) dX11_least_127 rfl (by decide) ?_
        refine s_lald hC (wup_s _ _ _) (vp_in_nI (by decide : 3 < 4) (by decide)) dX11_least_128 rfl ?_
        refine s_aload hC dX11_least_129 rfl 0 rfl ?_
        refine s_iconst hC (v := 3) dX11_least_131 rfl (by decide) ?_
        refine s_lald hC (wup_s _ _ _) (vp_in_nI (by decide : 3 < 4) (by decide)) dX11_least_132 rfl ?_
        refine s_lmul hC dX11_least_133 rfl ?_
        refine s_ladd hC dX11_least_134 rfl ?_
        refine s_iload_n hC dX11_least_135 rfl rfl 5 rfl ?_
        refine s_iconst hC (v := 1) dX11_least_136 rfl (by decide) ?_
        refine z_icmp_ne hC (tgt := 144) dX11_least_137 rfl (by decide) (fun c_4 => (c_4 rfl).elim) (fun c_4 => ?_)
        refine s_lconst hC (v := 0) dX11_least_140 rfl (by decide) ?_
        refine s_goto hC (tgt := 161) dX11_least_141 (by decide) ?_
        refine s_ladd hC dX11_least_161 rfl ?_
        refine WP.top (.long (lsG σ 0 pl f j)) (by rw [lsG, lsQ]) ?_
        refine s_lstore hC (L' := [(14, _), (13, _), (11, _), (9, _), (0, _), (1, _), (2, _), (3, _), (4, _), (5, _), (6, _), (8, _)]) dX11_least_162 rfl (le_b rfl) rfl ?_
        refine s_lload hC dX11_least_164 rfl 10 rfl ?_
        refine s_ldc2 hC tw_1703 dX11_least_166 rfl ?_
        refine s_lcmp hC dX11_least_169 rfl ?_
        refine z_lif_eq hC (tgt := 181) dX11_least_170 rfl (by decide) (fun c_5 => ?_) (fun c_5 => ?_)
        · refine s_lload hC dX11_least_181 rfl 0 rfl ?_
          refine s_lstore hC (L' := [(6, _), (14, _), (13, _), (11, _), (9, _), (0, _), (1, _), (2, _), (3, _), (4, _), (5, _), (8, _)]) dX11_least_183 rfl (le_b rfl) rfl ?_
          refine s_aload hC dX11_least_185 rfl 10 rfl ?_
          refine s_iconst hC (v := 0) dX11_least_187 rfl (by decide) ?_
          refine s_iload hC dX11_least_188 rfl 11 rfl ?_
          refine s_iast hC ((wup_n (w_ne hWf hq_82)).trans hWf) (vp_in_nI (by decide : 0 < 1) (by decide)) dX11_least_190 rfl ?_
          refine WP.rm (RepM.by hR_114 hn_fa _) (fun hR_190 => ?_)
          refine s_iinc hC (v := _ + 1) (j9 := 11) (L' := [(8, _), (6, _), (14, _), (13, _), (11, _), (9, _), (0, _), (1, _), (2, _), (3, _), (4, _), (5, _)]) dX11_least_191 rfl rfl rfl (le_b rfl) rfl ?_
          refine s_goto hC (tgt := 8) dX11_least_194 (by decide) ?_
          refine WP.sub (L' := [(0, _), (1, _), (2, _), (3, _), (4, _), (5, _), (6, _), (8, _)]) [6, 7, 8, 9, 10, 11, 1, 0] rfl ?_
          refine WP.widen (k1 := 1 * (j + 1)) (n1 := 4 * (j + 1)) (by omega) (by omega) ?_
          refine ih (_, _, _, (upd F (Int32.toNatClampNeg 0) (nI j)), j + 1) ?_ ?_
          · dsimp only
            have h9 := hin9 c_1
            have he : lsF (lsG σ 0 pl f) ah fi (j + 1) = ((lsG σ 0 pl f) j, nI j) := by rw [lsF, if_neg c_3, if_pos c_5]
            rw [he]
            exact ⟨h9, nI_1 j, rfl, if_pos rfl, wup_s _ _ _, hkk.up _⟩
          · dsimp only
            have h9 := hin9 c_1; omega
        · refine s_lload hC dX11_least_173 rfl 0 rfl ?_
          refine s_lload hC dX11_least_175 rfl 10 rfl ?_
          refine s_lcmp hC dX11_least_177 rfl ?_
          refine z_lif_ge hC (tgt := 191) dX11_least_178 rfl (by decide) (fun c_6 => ?_) (fun c_6 => ?_)
          · refine s_iinc hC (v := _ + 1) (j9 := 11) (L' := [(8, _), (14, _), (13, _), (11, _), (9, _), (0, _), (1, _), (2, _), (3, _), (4, _), (5, _), (6, _)]) dX11_least_191 rfl rfl rfl (le_b rfl) rfl ?_
            refine s_goto hC (tgt := 8) dX11_least_194 (by decide) ?_
            refine WP.sub (L' := [(0, _), (1, _), (2, _), (3, _), (4, _), (5, _), (6, _), (8, _)]) [5, 6, 7, 8, 9, 10, 11, 0] rfl ?_
            refine WP.widen (k1 := 1 * (j + 1)) (n1 := 4 * (j + 1)) (by omega) (by omega) ?_
            refine ih (_, _, _, F, j + 1) ?_ ?_
            · dsimp only
              have h9 := hin9 c_1
              have he : lsF (lsG σ 0 pl f) ah fi (j + 1) = (lsF (lsG σ 0 pl f) ah fi j) := by rw [lsF, if_neg c_3, if_neg c_5, if_pos c_6]
              rw [he]
              exact ⟨h9, nI_1 j, rfl, hF, ((wup_n (w_ne hWf hq_82)).trans hWf), hkk⟩
            · dsimp only
              have h9 := hin9 c_1; omega
          · refine s_lload hC dX11_least_181 rfl 0 rfl ?_
            refine s_lstore hC (L' := [(6, _), (14, _), (13, _), (11, _), (9, _), (0, _), (1, _), (2, _), (3, _), (4, _), (5, _), (8, _)]) dX11_least_183 rfl (le_b rfl) rfl ?_
            refine s_aload hC dX11_least_185 rfl 10 rfl ?_
            refine s_iconst hC (v := 0) dX11_least_187 rfl (by decide) ?_
            refine s_iload hC dX11_least_188 rfl 11 rfl ?_
            refine s_iast hC ((wup_n (w_ne hWf hq_82)).trans hWf) (vp_in_nI (by decide : 0 < 1) (by decide)) dX11_least_190 rfl ?_
            refine WP.rm (RepM.by hR_114 hn_fa _) (fun hR_190 => ?_)
            refine s_iinc hC (v := _ + 1) (j9 := 11) (L' := [(8, _), (6, _), (14, _), (13, _), (11, _), (9, _), (0, _), (1, _), (2, _), (3, _), (4, _), (5, _)]) dX11_least_191 rfl rfl rfl (le_b rfl) rfl ?_
            refine s_goto hC (tgt := 8) dX11_least_194 (by decide) ?_
            refine WP.sub (L' := [(0, _), (1, _), (2, _), (3, _), (4, _), (5, _), (6, _), (8, _)]) [6, 7, 8, 9, 10, 11, 1, 0] rfl ?_
            refine WP.widen (k1 := 1 * (j + 1)) (n1 := 4 * (j + 1)) (by omega) (by omega) ?_
            refine ih (_, _, _, (upd F (Int32.toNatClampNeg 0) (nI j)), j + 1) ?_ ?_
            · dsimp only
              have h9 := hin9 c_1
              have he : lsF (lsG σ 0 pl f) ah fi (j + 1) = ((lsG σ 0 pl f) j, nI j) := by rw [lsF, if_neg c_3, if_neg c_5, if_neg c_6]
              rw [he]
              exact ⟨h9, nI_1 j, rfl, if_pos rfl, wup_s _ _ _, hkk.up _⟩
            · dsimp only
              have h9 := hin9 c_1; omega
set_option maxHeartbeats 4000000 in
set_option maxRecDepth 100000 in
theorem ct_least2 (l : Launch) (g : Gl) (ω : Wd) (ad : Iy → Nat) (y : Ey) (σ : St) (hR : RepM g ad y σ ω) (pl : Nat) (hpl : pl + 2 ≤ 200) (ah : Int32) (a : Nat) (f : Nat → Int64) (hat : ω a = some (.inl (g.2.1 4, 4, .inr (.inl f)))) (fa : Nat) (F0 : Nat → Int32) (fi : Int32) (hF0 : F0 0 = fi) (hfa : ω fa = some (.inl (g.2.1 0, 1, .inl F0))) (haf : a ≠ fa) (hn_fa : ∀ k, VM y σ k → ad k ≠ fa) : CT l g yX11_least cX11_least 16 (some .long) 2 70 80 296 [.ref (ad .main), .int (nI pl), .int 2, .int ah, .ref a, .ref fa] ω (fun r w => r = some (.long (lsF (lsG σ 1 pl f) ah fi 8).1) ∧ ∃ F, F 0 = (lsF (lsG σ 1 pl f) ah fi 8).2 ∧ w fa = some (.inl (g.2.1 0, 1, .inl F)) ∧ keepP ω fa w) (nox) := by
  refine CT.of (own := "BoringheadModel") rfl rfl (le_b rfl) rfl ?_
  intro p e s m args below meth c sz0 hC hr htab hin
  refine s_ldc2 hC tw_1703 dX11_least_0 rfl ?_
  refine s_lstore hC (L' := [(6, _), (0, _), (1, _), (2, _), (3, _), (4, _), (5, _)]) dX11_least_3 rfl (le_b rfl) rfl ?_
  refine s_iconst hC (v := 0) dX11_least_5 rfl (by decide) ?_
  refine s_istore hC (L' := [(8, _), (6, _), (0, _), (1, _), (2, _), (3, _), (4, _), (5, _)]) dX11_least_6 rfl (le_b rfl) rfl ?_
  refine WP.sub (L' := [(0, _), (1, _), (2, _), (3, _), (4, _), (5, _), (6, _), (8, _)]) [2, 3, 4, 5, 6, 7, 1, 0] rfl ?_
  refine wp_loopk (kf := fun (b9, i, W, F, j) => 10 * j) (nf := fun (b9, i, W, F, j) => 37 * j) (σ := Int64 × Int32 × Wd × (Nat → Int32) × Nat) (I := fun (b9, i, W, F, j) => j ≤ 8 ∧ i = nI j ∧ b9 = (lsF (lsG σ 1 pl f) ah fi j).1 ∧ F 0 = (lsF (lsG σ 1 pl f) ah fi j).2 ∧ W fa = some (.inl (g.2.1 0, 1, .inl F)) ∧ keepP ω fa W) (ωf := fun (b9, i, W, F, j) => W) (Lf := fun (b9, i, W, F, j) => [(0, .ref (ad .main)), (1, .int (nI pl)), (2, .int 2), (3, .int ah), (4, .ref a), (5, .ref fa), (6, .long b9), (8, .int i)]) (μ := fun (b9, i, W, F, j) => 8 - j) (x0 := (_, _, _, F0, 0)) ?_ ?_
  · exact ⟨Nat.zero_le _, rfl, rfl, hF0, hfa, keepP.rf _ _⟩
  · rintro ⟨b9, i, W, F, j⟩ hI ih
    dsimp only at hI ih ⊢
    obtain ⟨hj, rfl, rfl, hF, hWf, hWk⟩ := hI
    have hin9 : ¬ (8 : Int32) ≤ nI j → j < 8 := fun h => by
      have h2 := mt (nI_leI (by decide : 8 < 2 ^ 31) (by omega)).mpr h
      omega
    have hW := RepM.keep hR hn_fa hWk
    have haW := hWk.get hat haf
    refine s_iload hC dX11_least_8 rfl 7 rfl ?_
    refine s_bipush hC (v := 8) dX11_least_10 rfl (by decide) ?_
    refine z_icmp_ge hC (tgt := 197) dX11_least_12 rfl (by decide) (fun c_1 => ?_) (fun c_1 => ?_)
    · refine WP.widen (k1 := 80) (n1 := 296) (by omega) (by omega) ?_
      obtain rfl : j = 8 := by
        have h2 := (nI_leI (by decide : 8 < 2 ^ 31) (by omega)).mp c_1
        omega
      refine s_lload hC dX11_least_197 rfl 6 rfl ?_
      refine s_lret hC hr dX11_least_199 (le_b rfl) (le_b rfl) ?_
      exact ⟨rfl, F, hF, hWf, hWk⟩
    · refine s_iload_n hC dX11_least_15 rfl rfl 2 rfl ?_
      refine z_if_le hC (tgt := 197) dX11_least_16 rfl (by decide) (fun c_2 => ((absurd c_2 (by decide) : False)).elim) (fun c_2 => ?_)
      refine s_iload hC dX11_least_19 rfl 7 rfl ?_
      refine s_iload_n hC dX11_least_21 rfl rfl 3 rfl ?_
      refine z_icmp_eq hC (tgt := 191) dX11_least_22 rfl (by decide) (fun c_3 => ?_) (fun c_3 => ?_)
      · refine s_iinc hC (v := _ + 1) (j9 := 7) (L' := [(8, _), (0, _), (1, _), (2, _), (3, _), (4, _), (5, _), (6, _)]) dX11_least_191 rfl rfl rfl (le_b rfl) rfl ?_
        refine s_goto hC (tgt := 8) dX11_least_194 (by decide) ?_
        refine WP.sub (L' := [(0, _), (1, _), (2, _), (3, _), (4, _), (5, _), (6, _), (8, _)]) [1, 2, 3, 4, 5, 6, 7, 0] rfl ?_
        refine WP.widen (k1 := 10 * (j + 1)) (n1 := 37 * (j + 1)) (by omega) (by omega) ?_
        refine ih (_, _, _, F, j + 1) ?_ ?_
        · dsimp only
          have h9 := hin9 c_1
          have he : lsF (lsG σ 1 pl f) ah fi (j + 1) = (lsF (lsG σ 1 pl f) ah fi j) := by rw [lsF, if_pos c_3]
          rw [he]
          exact ⟨h9, nI_1 j, rfl, hF, hWf, hWk⟩
        · dsimp only
          have h9 := hin9 c_1; omega
      · refine s_aload hC dX11_least_25 rfl 4 rfl ?_
        refine s_iconst hC (v := 0) dX11_least_27 rfl (by decide) ?_
        refine s_lald hC haW (vp_in_nI (by decide : 0 < 4) (by decide)) dX11_least_28 rfl ?_
        refine s_gets hC 17 rfl tw_1629 dX11_least_29 rfl ?_
        refine s_iload hC dX11_least_32 rfl 7 rfl ?_
        refine s_ialdK hC (Or.inr ⟨17, _, _, _, _, rfl, rfl, rfl, rfl⟩) (vp_in_nI (hin9 c_1) (by decide)) dX11_least_34 rfl ?_
        refine s_i2l hC dX11_least_35 rfl rfl ?_
        refine s_ladd hC dX11_least_36 rfl ?_
        refine s_aload_n hC dX11_least_37 rfl rfl 0 rfl ?_
        refine s_getf hC cs_X11 13 tw_1262 (le_b rfl) (RepM.f_main hW) rfl dX11_least_38 rfl ?_
        refine s_i2l hC dX11_least_41 rfl rfl ?_
        refine s_ladd hC dX11_least_42 rfl ?_
        refine s_aload_n hC dX11_least_43 rfl rfl 0 rfl ?_
        refine s_getf hC cs_X11 5 tw_1254 (le_b rfl) (RepM.f_main hW) rfl dX11_least_44 rfl ?_
        refine s_iload_n hC dX11_least_47 rfl rfl 1 rfl ?_
        refine s_ialdK hC (Or.inl (RepM.f_bR hW)) (vp_in_nI (by omega : pl < 200) (by decide)) dX11_least_48 rfl ?_
        refine s_i2l hC dX11_least_49 rfl rfl ?_
        refine s_lsub hC dX11_least_50 rfl ?_
        refine s_lstore hC (L' := [(9, _), (0, _), (1, _), (2, _), (3, _), (4, _), (5, _), (6, _), (8, _)]) dX11_least_51 rfl (le_b rfl) rfl ?_
        refine s_aload hC dX11_least_53 rfl 5 rfl ?_
        refine s_iconst hC (v := 1) dX11_least_55 rfl (by decide) ?_
        refine s_lald hC haW (vp_in_nI (by decide : 1 < 4) (by decide)) dX11_least_56 rfl ?_
        refine s_gets hC 18 rfl tw_1631 dX11_least_57 rfl ?_
        refine s_iload hC dX11_least_60 rfl 8 rfl ?_
        refine s_ialdK hC (Or.inr ⟨18, _, _, _, _, rfl, rfl, rfl, rfl⟩) (vp_in_nI (hin9 c_1) (by decide)) dX11_least_62 rfl ?_
        refine s_i2l hC dX11_least_63 rfl rfl ?_
        refine s_ladd hC dX11_least_64 rfl ?_
        refine s_aload_n hC dX11_least_65 rfl rfl 1 rfl ?_
        refine s_getf hC cs_X11 14 tw_1263 (le_b rfl) (RepM.f_main hW) rfl dX11_least_66 rfl ?_
        refine s_i2l hC dX11_least_69 rfl rfl ?_
        refine s_ladd hC dX11_least_70 rfl ?_
        refine s_aload_n hC dX11_least_71 rfl rfl 1 rfl ?_
        refine s_getf hC cs_X11 6 tw_1255 (le_b rfl) (RepM.f_main hW) rfl dX11_least_72 rfl ?_
        refine s_iload_n hC dX11_least_75 rfl rfl 2 rfl ?_
        refine s_ialdK hC (Or.inl (RepM.f_bU hW)) (vp_in_nI (by omega : pl < 200) (by decide)) dX11_least_76 rfl ?_
        refine s_i2l hC dX11_least_77 rfl rfl ?_
        refine s_lsub hC dX11_least_78 rfl ?_
        refine s_lstore hC (L' := [(11, _), (9, _), (0, _), (1, _), (2, _), (3, _), (4, _), (5, _), (6, _), (8, _)]) dX11_least_79 rfl (le_b rfl) rfl ?_
        refine s_iconst hC (v := 4) dX11_least_81 rfl (by decide) ?_
        refine s_newa hC 4 (at0 := .long) (ty := .long) (N' := 4) (a0 := (4, .inr (.inl (fun _ => 0)))) rfl rfl tw_1704 (fun _ => rfl) (by decide) (by decide) (by decide) (by show _ ≤ 80; have := hin9 c_1; omega) (by show _ ≤ 296; have := hin9 c_1; omega) dX11_least_82 rfl (fun q_82 hq_82 => ?_)
        have hn_q_82 := RepM.ne hW hq_82
        refine WP.rm (RepM.new hW hq_82 _) (fun hR_q_82 => ?_)
        refine s_dup hC dX11_least_84 rfl rfl ?_
        refine s_iconst hC (v := 0) dX11_least_85 rfl (by decide) ?_
        refine s_lload hC dX11_least_86 rfl 1 rfl ?_
        refine s_last hC (wup_s _ _ _) (vp_in_nI (by decide : 0 < 4) (by decide)) dX11_least_88 rfl ?_
        refine WP.rm (RepM.by hR_q_82 hn_q_82 _) (fun hR_88 => ?_)
        refine s_dup hC dX11_least_89 rfl rfl ?_
        refine s_iconst hC (v := 1) dX11_least_90 rfl (by decide) ?_
        refine s_lload hC dX11_least_91 rfl 0 rfl ?_
        refine s_last hC (wup_s _ _ _) (vp_in_nI (by decide : 1 < 4) (by decide)) dX11_least_93 rfl ?_
        refine WP.rm (RepM.by hR_88 hn_q_82 _) (fun hR_93 => ?_)
        refine s_dup hC dX11_least_94 rfl rfl ?_
        refine s_iconst hC (v := 2) dX11_least_95 rfl (by decide) ?_
        refine s_aload hC dX11_least_96 rfl 6 rfl ?_
        refine s_iconst hC (v := 2) dX11_least_98 rfl (by decide) ?_
        refine s_lald hC ((wup_n (w_ne haW hq_82)).trans ((wup_n (w_ne haW hq_82)).trans ((wup_n (w_ne haW hq_82)).trans haW))) (vp_in_nI (by decide : 2 < 4) (by decide)) dX11_least_99 rfl ?_
        refine s_lload hC dX11_least_100 rfl 1 rfl ?_
        refine s_ladd hC dX11_least_102 rfl ?_
        refine s_last hC (wup_s _ _ _) (vp_in_nI (by decide : 2 < 4) (by decide)) dX11_least_103 rfl ?_
        refine WP.rm (RepM.by hR_93 hn_q_82 _) (fun hR_103 => ?_)
        refine s_dup hC dX11_least_104 rfl rfl ?_
        refine s_iconst hC (v := 3) dX11_least_105 rfl (by decide) ?_
        refine s_aload hC dX11_least_106 rfl 6 rfl ?_
        refine s_iconst hC (v := 3) dX11_least_108 rfl (by decide) ?_
        refine s_lald hC ((wup_n (w_ne haW hq_82)).trans ((wup_n (w_ne haW hq_82)).trans ((wup_n (w_ne haW hq_82)).trans ((wup_n (w_ne haW hq_82)).trans haW)))) (vp_in_nI (by decide : 3 < 4) (by decide)) dX11_least_109 rfl ?_
        refine s_lload hC dX11_least_110 rfl 0 rfl ?_
        refine s_ladd hC dX11_least_112 rfl ?_
        refine s_last hC (wup_s _ _ _) (vp_in_nI (by decide : 3 < 4) (by decide)) dX11_least_113 rfl ?_
        refine WP.rm (RepM.by hR_103 hn_q_82 _) (fun hR_113 => ?_)
        refine WP.of (ω' := wup W q_82 (.inl (g.2.1 4, 4, .inr (.inl (lsA σ pl f j))))) (by rw [wup_wup, wup_wup, wup_wup, wup_wup]; rfl) ?_
        have hR_114 : RepM g ad y σ (wup W q_82 (.inl (g.2.1 4, 4, .inr (.inl (lsA σ pl f j))))) := RepM.new hW hq_82 _
        have hkk : keepP ω fa (wup W q_82 (.inl (g.2.1 4, 4, .inr (.inl (lsA σ pl f j))))) := hWk.new hq_82 _
        refine s_astore hC (L' := [(13, _), (11, _), (9, _), (0, _), (1, _), (2, _), (3, _), (4, _), (5, _), (6, _), (8, _)]) dX11_least_114 rfl (le_b rfl) rfl ?_
        refine s_aload hC dX11_least_116 rfl 0 rfl ?_
        refine s_iconst hC (v := 2) dX11_least_118 rfl (by decide) ?_
        refine s_lald hC (wup_s _ _ _) (vp_in_nI (by decide : 2 < 4) (by decide)) dX11_least_119 rfl ?_
        refine s_aload hC dX11_least_120 rfl 0 rfl ?_
        refine s_iconst hC (v := 2) dX11_least_122 rfl (by decide) ?_
        refine s_lald hC (wup_s _ _ _) (vp_in_nI (by decide : 2 < 4) (by decide)) dX11_least_123 rfl ?_
        refine s_lmul hC dX11_least_124 rfl ?_
        refine s_aload hC dX11_least_125 rfl 0 rfl ?_
        refine s_iconst hC (v := 3) dX11_least_127 rfl (by decide) ?_
        refine s_lald hC (wup_s _ _ _) (vp_in_nI (by decide : 3 < 4) (by decide)) dX11_least_128 rfl ?_
        refine s_aload hC dX11_least_129 rfl 0 rfl ?_
        refine s_iconst hC (v := 3) dX11_least_131 rfl (by decide) ?_
        refine s_lald hC (wup_s _ _ _) (vp_in_nI (by decide : 3 < 4) (by decide)) dX11_least_132 rfl ?_
        refine s_lmul hC dX11_least_133 rfl ?_
        refine s_ladd hC dX11_least_134 rfl ?_
        refine s_iload_n hC dX11_least_135 rfl rfl 5 rfl ?_
        refine s_iconst hC (v := 1) dX11_least_136 rfl (by decide) ?_
        refine z_icmp_ne hC (tgt := 144) dX11_least_137 rfl (by decide) (fun c_4 => ?_) (fun c_4 => ((absurd c_4 (by decide) : False)).elim)
        refine s_aload_n hC dX11_least_144 rfl rfl 3 rfl ?_
        refine s_iload_n hC dX11_least_145 rfl rfl 4 rfl ?_
        refine s_iconst hC (v := 1) dX11_least_146 rfl (by decide) ?_
        refine s_iadd hC dX11_least_147 rfl ?_
        refine s_iload_n hC dX11_least_148 rfl rfl 5 rfl ?_
        refine s_iconst hC (v := 1) dX11_least_149 rfl (by decide) ?_
        refine s_isub hC dX11_least_150 rfl ?_
        rw [show (2 : Int32) - 1 = 1 from by decide, nI_1]
        refine s_iload hC dX11_least_151 rfl 10 rfl ?_
        refine s_aload hC dX11_least_153 rfl 0 rfl ?_
        refine s_iconst hC (v := 1) dX11_least_155 rfl (by decide) ?_
        refine s_newa hC 0 (at0 := .int) (ty := .int) (N' := 1) (a0 := (1, .inl (fun _ => 0))) rfl rfl tw_83 (fun _ => rfl) (by decide) (by decide) (by decide) (by show _ ≤ 80; have := hin9 c_1; omega) (by show _ ≤ 296; have := hin9 c_1; omega) dX11_least_156 rfl (fun q_156 hq_156 => ?_)
        have hn_q_156 := RepM.ne hR_114 hq_156
        refine WP.rm (RepM.new hR_114 hq_156 _) (fun hR_q_156 => ?_)
        refine s_callV hC (ct_least1 l g _ _ _ _ hR_q_156 (pl + 1) (by omega) (nI j) q_82 (lsA σ pl f j) ((wup_n (w_ne (wup_s _ _ _) hq_156)).trans (wup_s _ _ _)) q_156 (fun _ => 0) 0 rfl (wup_s _ _ _) (w_ne (wup_s _ _ _) hq_156) hn_q_156) ce_X11_least cs_X11 (RepM.f_main hR_q_156) tw_1699 rfl rfl ⟨⟨le_b rfl, le_b rfl⟩, (by show _ ≤ 80; have := hin9 c_1; omega), (by show _ ≤ 296; have := hin9 c_1; omega)⟩ (le_b rfl) dX11_least_158 rfl (fun r w h9 => ?_) nokx
        obtain ⟨rfl, F8, hF8, hf8, hk8⟩ := h9
        have hR_158 := RepM.keep hR_q_156 hn_q_156 hk8
        have hkk := hkk.call hq_156 hk8
        have hfw := hk8.get ((wup_n (w_ne ((wup_n (w_ne hWf hq_82)).trans hWf) hq_156)).trans ((wup_n (w_ne hWf hq_82)).trans hWf)) (w_ne ((wup_n (w_ne hWf hq_82)).trans hWf) hq_156)
        refine s_ladd hC dX11_least_161 rfl ?_
        refine WP.top (.long (lsG σ 1 pl f j)) (by rw [lsG, lsQ]) ?_
        refine s_lstore hC (L' := [(14, _), (13, _), (11, _), (9, _), (0, _), (1, _), (2, _), (3, _), (4, _), (5, _), (6, _), (8, _)]) dX11_least_162 rfl (le_b rfl) rfl ?_
        refine s_lload hC dX11_least_164 rfl 10 rfl ?_
        refine s_ldc2 hC tw_1703 dX11_least_166 rfl ?_
        refine s_lcmp hC dX11_least_169 rfl ?_
        refine z_lif_eq hC (tgt := 181) dX11_least_170 rfl (by decide) (fun c_5 => ?_) (fun c_5 => ?_)
        · refine s_lload hC dX11_least_181 rfl 0 rfl ?_
          refine s_lstore hC (L' := [(6, _), (14, _), (13, _), (11, _), (9, _), (0, _), (1, _), (2, _), (3, _), (4, _), (5, _), (8, _)]) dX11_least_183 rfl (le_b rfl) rfl ?_
          refine s_aload hC dX11_least_185 rfl 10 rfl ?_
          refine s_iconst hC (v := 0) dX11_least_187 rfl (by decide) ?_
          refine s_iload hC dX11_least_188 rfl 11 rfl ?_
          refine s_iast hC hfw (vp_in_nI (by decide : 0 < 1) (by decide)) dX11_least_190 rfl ?_
          refine WP.rm (RepM.by hR_158 hn_fa _) (fun hR_190 => ?_)
          refine s_iinc hC (v := _ + 1) (j9 := 11) (L' := [(8, _), (6, _), (14, _), (13, _), (11, _), (9, _), (0, _), (1, _), (2, _), (3, _), (4, _), (5, _)]) dX11_least_191 rfl rfl rfl (le_b rfl) rfl ?_
          refine s_goto hC (tgt := 8) dX11_least_194 (by decide) ?_
          refine WP.sub (L' := [(0, _), (1, _), (2, _), (3, _), (4, _), (5, _), (6, _), (8, _)]) [6, 7, 8, 9, 10, 11, 1, 0] rfl ?_
          refine WP.widen (k1 := 10 * (j + 1)) (n1 := 37 * (j + 1)) (by omega) (by omega) ?_
          refine ih (_, _, _, (upd F (Int32.toNatClampNeg 0) (nI j)), j + 1) ?_ ?_
          · dsimp only
            have h9 := hin9 c_1
            have he : lsF (lsG σ 1 pl f) ah fi (j + 1) = ((lsG σ 1 pl f) j, nI j) := by rw [lsF, if_neg c_3, if_pos c_5]
            rw [he]
            exact ⟨h9, nI_1 j, rfl, if_pos rfl, wup_s _ _ _, hkk.up _⟩
          · dsimp only
            have h9 := hin9 c_1; omega
        · refine s_lload hC dX11_least_173 rfl 0 rfl ?_
          refine s_lload hC dX11_least_175 rfl 10 rfl ?_
          refine s_lcmp hC dX11_least_177 rfl ?_
          refine z_lif_ge hC (tgt := 191) dX11_least_178 rfl (by decide) (fun c_6 => ?_) (fun c_6 => ?_)
          · refine s_iinc hC (v := _ + 1) (j9 := 11) (L' := [(8, _), (14, _), (13, _), (11, _), (9, _), (0, _), (1, _), (2, _), (3, _), (4, _), (5, _), (6, _)]) dX11_least_191 rfl rfl rfl (le_b rfl) rfl ?_
            refine s_goto hC (tgt := 8) dX11_least_194 (by decide) ?_
            refine WP.sub (L' := [(0, _), (1, _), (2, _), (3, _), (4, _), (5, _), (6, _), (8, _)]) [5, 6, 7, 8, 9, 10, 11, 0] rfl ?_
            refine WP.widen (k1 := 10 * (j + 1)) (n1 := 37 * (j + 1)) (by omega) (by omega) ?_
            refine ih (_, _, _, F, j + 1) ?_ ?_
            · dsimp only
              have h9 := hin9 c_1
              have he : lsF (lsG σ 1 pl f) ah fi (j + 1) = (lsF (lsG σ 1 pl f) ah fi j) := by rw [lsF, if_neg c_3, if_neg c_5, if_pos c_6]
              rw [he]
              exact ⟨h9, nI_1 j, rfl, hF, hfw, hkk⟩
            · dsimp only
              have h9 := hin9 c_1; omega
          · refine s_lload hC dX11_least_181 rfl 0 rfl ?_
            refine s_lstore hC (L' := [(6, _), (14, _), (13, _), (11, _), (9, _), (0, _), (1, _), (2, _), (3, _), (4, _), (5, _), (8, _)]) dX11_least_183 rfl (le_b rfl) rfl ?_
            refine s_aload hC dX11_least_185 rfl 10 rfl ?_
            refine s_iconst hC (v := 0) dX11_least_187 rfl (by decide) ?_
            refine s_iload hC dX11_least_188 rfl 11 rfl ?_
            refine s_iast hC hfw (vp_in_nI (by decide : 0 < 1) (by decide)) dX11_least_190 rfl ?_
            refine WP.rm (RepM.by hR_158 hn_fa _) (fun hR_190 => ?_)
            refine s_iinc hC (v := _ + 1) (j9 := 11) (L' := [(8, _), (6, _), (14, _), (13, _), (11, _), (9, _), (0, _), (1, _), (2, _), (3, _), (4, _), (5, _)]) dX11_least_191 rfl rfl rfl (le_b rfl) rfl ?_
            refine s_goto hC (tgt := 8) dX11_least_194 (by decide) ?_
            refine WP.sub (L' := [(0, _), (1, _), (2, _), (3, _), (4, _), (5, _), (6, _), (8, _)]) [6, 7, 8, 9, 10, 11, 1, 0] rfl ?_
            refine WP.widen (k1 := 10 * (j + 1)) (n1 := 37 * (j + 1)) (by omega) (by omega) ?_
            refine ih (_, _, _, (upd F (Int32.toNatClampNeg 0) (nI j)), j + 1) ?_ ?_
            · dsimp only
              have h9 := hin9 c_1
              have he : lsF (lsG σ 1 pl f) ah fi (j + 1) = ((lsG σ 1 pl f) j, nI j) := by rw [lsF, if_neg c_3, if_neg c_5, if_neg c_6]
              rw [he]
              exact ⟨h9, nI_1 j, rfl, if_pos rfl, wup_s _ _ _, hkk.up _⟩
            · dsimp only
              have h9 := hin9 c_1; omega
set_option maxHeartbeats 4000000 in
set_option maxRecDepth 100000 in
theorem ct_least3 (l : Launch) (g : Gl) (ω : Wd) (ad : Iy → Nat) (y : Ey) (σ : St) (hR : RepM g ad y σ ω) (pl : Nat) (hpl : pl + 3 ≤ 200) (ah : Int32) (a : Nat) (f : Nat → Int64) (hat : ω a = some (.inl (g.2.1 4, 4, .inr (.inl f)))) (fa : Nat) (F0 : Nat → Int32) (fi : Int32) (hF0 : F0 0 = fi) (hfa : ω fa = some (.inl (g.2.1 0, 1, .inl F0))) (haf : a ≠ fa) (hn_fa : ∀ k, VM y σ k → ad k ≠ fa) : CT l g yX11_least cX11_least 16 (some .long) 3 105 656 2408 [.ref (ad .main), .int (nI pl), .int 3, .int ah, .ref a, .ref fa] ω (fun r w => r = some (.long (lsF (lsG σ 2 pl f) ah fi 8).1) ∧ ∃ F, F 0 = (lsF (lsG σ 2 pl f) ah fi 8).2 ∧ w fa = some (.inl (g.2.1 0, 1, .inl F)) ∧ keepP ω fa w) (nox) := by
  refine CT.of (own := "BoringheadModel") rfl rfl (le_b rfl) rfl ?_
  intro p e s m args below meth c sz0 hC hr htab hin
  refine s_ldc2 hC tw_1703 dX11_least_0 rfl ?_
  refine s_lstore hC (L' := [(6, _), (0, _), (1, _), (2, _), (3, _), (4, _), (5, _)]) dX11_least_3 rfl (le_b rfl) rfl ?_
  refine s_iconst hC (v := 0) dX11_least_5 rfl (by decide) ?_
  refine s_istore hC (L' := [(8, _), (6, _), (0, _), (1, _), (2, _), (3, _), (4, _), (5, _)]) dX11_least_6 rfl (le_b rfl) rfl ?_
  refine WP.sub (L' := [(0, _), (1, _), (2, _), (3, _), (4, _), (5, _), (6, _), (8, _)]) [2, 3, 4, 5, 6, 7, 1, 0] rfl ?_
  refine wp_loopk (kf := fun (b9, i, W, F, j) => 82 * j) (nf := fun (b9, i, W, F, j) => 301 * j) (σ := Int64 × Int32 × Wd × (Nat → Int32) × Nat) (I := fun (b9, i, W, F, j) => j ≤ 8 ∧ i = nI j ∧ b9 = (lsF (lsG σ 2 pl f) ah fi j).1 ∧ F 0 = (lsF (lsG σ 2 pl f) ah fi j).2 ∧ W fa = some (.inl (g.2.1 0, 1, .inl F)) ∧ keepP ω fa W) (ωf := fun (b9, i, W, F, j) => W) (Lf := fun (b9, i, W, F, j) => [(0, .ref (ad .main)), (1, .int (nI pl)), (2, .int 3), (3, .int ah), (4, .ref a), (5, .ref fa), (6, .long b9), (8, .int i)]) (μ := fun (b9, i, W, F, j) => 8 - j) (x0 := (_, _, _, F0, 0)) ?_ ?_
  · exact ⟨Nat.zero_le _, rfl, rfl, hF0, hfa, keepP.rf _ _⟩
  · rintro ⟨b9, i, W, F, j⟩ hI ih
    dsimp only at hI ih ⊢
    obtain ⟨hj, rfl, rfl, hF, hWf, hWk⟩ := hI
    have hin9 : ¬ (8 : Int32) ≤ nI j → j < 8 := fun h => by
      have h2 := mt (nI_leI (by decide : 8 < 2 ^ 31) (by omega)).mpr h
      omega
    have hW := RepM.keep hR hn_fa hWk
    have haW := hWk.get hat haf
    refine s_iload hC dX11_least_8 rfl 7 rfl ?_
    refine s_bipush hC (v := 8) dX11_least_10 rfl (by decide) ?_
    refine z_icmp_ge hC (tgt := 197) dX11_least_12 rfl (by decide) (fun c_1 => ?_) (fun c_1 => ?_)
    · refine WP.widen (k1 := 656) (n1 := 2408) (by omega) (by omega) ?_
      obtain rfl : j = 8 := by
        have h2 := (nI_leI (by decide : 8 < 2 ^ 31) (by omega)).mp c_1
        omega
      refine s_lload hC dX11_least_197 rfl 6 rfl ?_
      refine s_lret hC hr dX11_least_199 (le_b rfl) (le_b rfl) ?_
      exact ⟨rfl, F, hF, hWf, hWk⟩
    · refine s_iload_n hC dX11_least_15 rfl rfl 2 rfl ?_
      refine z_if_le hC (tgt := 197) dX11_least_16 rfl (by decide) (fun c_2 => ((absurd c_2 (by decide) : False)).elim) (fun c_2 => ?_)
      refine s_iload hC dX11_least_19 rfl 7 rfl ?_
      refine s_iload_n hC dX11_least_21 rfl rfl 3 rfl ?_
      refine z_icmp_eq hC (tgt := 191) dX11_least_22 rfl (by decide) (fun c_3 => ?_) (fun c_3 => ?_)
      · refine s_iinc hC (v := _ + 1) (j9 := 7) (L' := [(8, _), (0, _), (1, _), (2, _), (3, _), (4, _), (5, _), (6, _)]) dX11_least_191 rfl rfl rfl (le_b rfl) rfl ?_
        refine s_goto hC (tgt := 8) dX11_least_194 (by decide) ?_
        refine WP.sub (L' := [(0, _), (1, _), (2, _), (3, _), (4, _), (5, _), (6, _), (8, _)]) [1, 2, 3, 4, 5, 6, 7, 0] rfl ?_
        refine WP.widen (k1 := 82 * (j + 1)) (n1 := 301 * (j + 1)) (by omega) (by omega) ?_
        refine ih (_, _, _, F, j + 1) ?_ ?_
        · dsimp only
          have h9 := hin9 c_1
          have he : lsF (lsG σ 2 pl f) ah fi (j + 1) = (lsF (lsG σ 2 pl f) ah fi j) := by rw [lsF, if_pos c_3]
          rw [he]
          exact ⟨h9, nI_1 j, rfl, hF, hWf, hWk⟩
        · dsimp only
          have h9 := hin9 c_1; omega
      · refine s_aload hC dX11_least_25 rfl 4 rfl ?_
        refine s_iconst hC (v := 0) dX11_least_27 rfl (by decide) ?_
        refine s_lald hC haW (vp_in_nI (by decide : 0 < 4) (by decide)) dX11_least_28 rfl ?_
        refine s_gets hC 17 rfl tw_1629 dX11_least_29 rfl ?_
        refine s_iload hC dX11_least_32 rfl 7 rfl ?_
        refine s_ialdK hC (Or.inr ⟨17, _, _, _, _, rfl, rfl, rfl, rfl⟩) (vp_in_nI (hin9 c_1) (by decide)) dX11_least_34 rfl ?_
        refine s_i2l hC dX11_least_35 rfl rfl ?_
        refine s_ladd hC dX11_least_36 rfl ?_
        refine s_aload_n hC dX11_least_37 rfl rfl 0 rfl ?_
        refine s_getf hC cs_X11 13 tw_1262 (le_b rfl) (RepM.f_main hW) rfl dX11_least_38 rfl ?_
        refine s_i2l hC dX11_least_41 rfl rfl ?_
        refine s_ladd hC dX11_least_42 rfl ?_
        refine s_aload_n hC dX11_least_43 rfl rfl 0 rfl ?_
        refine s_getf hC cs_X11 5 tw_1254 (le_b rfl) (RepM.f_main hW) rfl dX11_least_44 rfl ?_
        refine s_iload_n hC dX11_least_47 rfl rfl 1 rfl ?_
        refine s_ialdK hC (Or.inl (RepM.f_bR hW)) (vp_in_nI (by omega : pl < 200) (by decide)) dX11_least_48 rfl ?_
        refine s_i2l hC dX11_least_49 rfl rfl ?_
        refine s_lsub hC dX11_least_50 rfl ?_
        refine s_lstore hC (L' := [(9, _), (0, _), (1, _), (2, _), (3, _), (4, _), (5, _), (6, _), (8, _)]) dX11_least_51 rfl (le_b rfl) rfl ?_
        refine s_aload hC dX11_least_53 rfl 5 rfl ?_
        refine s_iconst hC (v := 1) dX11_least_55 rfl (by decide) ?_
        refine s_lald hC haW (vp_in_nI (by decide : 1 < 4) (by decide)) dX11_least_56 rfl ?_
        refine s_gets hC 18 rfl tw_1631 dX11_least_57 rfl ?_
        refine s_iload hC dX11_least_60 rfl 8 rfl ?_
        refine s_ialdK hC (Or.inr ⟨18, _, _, _, _, rfl, rfl, rfl, rfl⟩) (vp_in_nI (hin9 c_1) (by decide)) dX11_least_62 rfl ?_
        refine s_i2l hC dX11_least_63 rfl rfl ?_
        refine s_ladd hC dX11_least_64 rfl ?_
        refine s_aload_n hC dX11_least_65 rfl rfl 1 rfl ?_
        refine s_getf hC cs_X11 14 tw_1263 (le_b rfl) (RepM.f_main hW) rfl dX11_least_66 rfl ?_
        refine s_i2l hC dX11_least_69 rfl rfl ?_
        refine s_ladd hC dX11_least_70 rfl ?_
        refine s_aload_n hC dX11_least_71 rfl rfl 1 rfl ?_
        refine s_getf hC cs_X11 6 tw_1255 (le_b rfl) (RepM.f_main hW) rfl dX11_least_72 rfl ?_
        refine s_iload_n hC dX11_least_75 rfl rfl 2 rfl ?_
        refine s_ialdK hC (Or.inl (RepM.f_bU hW)) (vp_in_nI (by omega : pl < 200) (by decide)) dX11_least_76 rfl ?_
        refine s_i2l hC dX11_least_77 rfl rfl ?_
        refine s_lsub hC dX11_least_78 rfl ?_
        refine s_lstore hC (L' := [(11, _), (9, _), (0, _), (1, _), (2, _), (3, _), (4, _), (5, _), (6, _), (8, _)]) dX11_least_79 rfl (le_b rfl) rfl ?_
        refine s_iconst hC (v := 4) dX11_least_81 rfl (by decide) ?_
        refine s_newa hC 4 (at0 := .long) (ty := .long) (N' := 4) (a0 := (4, .inr (.inl (fun _ => 0)))) rfl rfl tw_1704 (fun _ => rfl) (by decide) (by decide) (by decide) (by show _ ≤ 656; have := hin9 c_1; omega) (by show _ ≤ 2408; have := hin9 c_1; omega) dX11_least_82 rfl (fun q_82 hq_82 => ?_)
        have hn_q_82 := RepM.ne hW hq_82
        refine WP.rm (RepM.new hW hq_82 _) (fun hR_q_82 => ?_)
        refine s_dup hC dX11_least_84 rfl rfl ?_
        refine s_iconst hC (v := 0) dX11_least_85 rfl (by decide) ?_
        refine s_lload hC dX11_least_86 rfl 1 rfl ?_
        refine s_last hC (wup_s _ _ _) (vp_in_nI (by decide : 0 < 4) (by decide)) dX11_least_88 rfl ?_
        refine WP.rm (RepM.by hR_q_82 hn_q_82 _) (fun hR_88 => ?_)
        refine s_dup hC dX11_least_89 rfl rfl ?_
        refine s_iconst hC (v := 1) dX11_least_90 rfl (by decide) ?_
        refine s_lload hC dX11_least_91 rfl 0 rfl ?_
        refine s_last hC (wup_s _ _ _) (vp_in_nI (by decide : 1 < 4) (by decide)) dX11_least_93 rfl ?_
        refine WP.rm (RepM.by hR_88 hn_q_82 _) (fun hR_93 => ?_)
        refine s_dup hC dX11_least_94 rfl rfl ?_
        refine s_iconst hC (v := 2) dX11_least_95 rfl (by decide) ?_
        refine s_aload hC dX11_least_96 rfl 6 rfl ?_
        refine s_iconst hC (v := 2) dX11_least_98 rfl (by decide) ?_
        refine s_lald hC ((wup_n (w_ne haW hq_82)).trans ((wup_n (w_ne haW hq_82)).trans ((wup_n (w_ne haW hq_82)).trans haW))) (vp_in_nI (by decide : 2 < 4) (by decide)) dX11_least_99 rfl ?_
        refine s_lload hC dX11_least_100 rfl 1 rfl ?_
        refine s_ladd hC dX11_least_102 rfl ?_
        refine s_last hC (wup_s _ _ _) (vp_in_nI (by decide : 2 < 4) (by decide)) dX11_least_103 rfl ?_
        refine WP.rm (RepM.by hR_93 hn_q_82 _) (fun hR_103 => ?_)
        refine s_dup hC dX11_least_104 rfl rfl ?_
        refine s_iconst hC (v := 3) dX11_least_105 rfl (by decide) ?_
        refine s_aload hC dX11_least_106 rfl 6 rfl ?_
        refine s_iconst hC (v := 3) dX11_least_108 rfl (by decide) ?_
        refine s_lald hC ((wup_n (w_ne haW hq_82)).trans ((wup_n (w_ne haW hq_82)).trans ((wup_n (w_ne haW hq_82)).trans ((wup_n (w_ne haW hq_82)).trans haW)))) (vp_in_nI (by decide : 3 < 4) (by decide)) dX11_least_109 rfl ?_
        refine s_lload hC dX11_least_110 rfl 0 rfl ?_
        refine s_ladd hC dX11_least_112 rfl ?_
        refine s_last hC (wup_s _ _ _) (vp_in_nI (by decide : 3 < 4) (by decide)) dX11_least_113 rfl ?_
        refine WP.rm (RepM.by hR_103 hn_q_82 _) (fun hR_113 => ?_)
        refine WP.of (ω' := wup W q_82 (.inl (g.2.1 4, 4, .inr (.inl (lsA σ pl f j))))) (by rw [wup_wup, wup_wup, wup_wup, wup_wup]; rfl) ?_
        have hR_114 : RepM g ad y σ (wup W q_82 (.inl (g.2.1 4, 4, .inr (.inl (lsA σ pl f j))))) := RepM.new hW hq_82 _
        have hkk : keepP ω fa (wup W q_82 (.inl (g.2.1 4, 4, .inr (.inl (lsA σ pl f j))))) := hWk.new hq_82 _
        refine s_astore hC (L' := [(13, _), (11, _), (9, _), (0, _), (1, _), (2, _), (3, _), (4, _), (5, _), (6, _), (8, _)]) dX11_least_114 rfl (le_b rfl) rfl ?_
        refine s_aload hC dX11_least_116 rfl 0 rfl ?_
        refine s_iconst hC (v := 2) dX11_least_118 rfl (by decide) ?_
        refine s_lald hC (wup_s _ _ _) (vp_in_nI (by decide : 2 < 4) (by decide)) dX11_least_119 rfl ?_
        refine s_aload hC dX11_least_120 rfl 0 rfl ?_
        refine s_iconst hC (v := 2) dX11_least_122 rfl (by decide) ?_
        refine s_lald hC (wup_s _ _ _) (vp_in_nI (by decide : 2 < 4) (by decide)) dX11_least_123 rfl ?_
        refine s_lmul hC dX11_least_124 rfl ?_
        refine s_aload hC dX11_least_125 rfl 0 rfl ?_
        refine s_iconst hC (v := 3) dX11_least_127 rfl (by decide) ?_
        refine s_lald hC (wup_s _ _ _) (vp_in_nI (by decide : 3 < 4) (by decide)) dX11_least_128 rfl ?_
        refine s_aload hC dX11_least_129 rfl 0 rfl ?_
        refine s_iconst hC (v := 3) dX11_least_131 rfl (by decide) ?_
        refine s_lald hC (wup_s _ _ _) (vp_in_nI (by decide : 3 < 4) (by decide)) dX11_least_132 rfl ?_
        refine s_lmul hC dX11_least_133 rfl ?_
        refine s_ladd hC dX11_least_134 rfl ?_
        refine s_iload_n hC dX11_least_135 rfl rfl 5 rfl ?_
        refine s_iconst hC (v := 1) dX11_least_136 rfl (by decide) ?_
        refine z_icmp_ne hC (tgt := 144) dX11_least_137 rfl (by decide) (fun c_4 => ?_) (fun c_4 => ((absurd c_4 (by decide) : False)).elim)
        refine s_aload_n hC dX11_least_144 rfl rfl 3 rfl ?_
        refine s_iload_n hC dX11_least_145 rfl rfl 4 rfl ?_
        refine s_iconst hC (v := 1) dX11_least_146 rfl (by decide) ?_
        refine s_iadd hC dX11_least_147 rfl ?_
        refine s_iload_n hC dX11_least_148 rfl rfl 5 rfl ?_
        refine s_iconst hC (v := 1) dX11_least_149 rfl (by decide) ?_
        refine s_isub hC dX11_least_150 rfl ?_
        rw [show (3 : Int32) - 1 = 2 from by decide, nI_1]
        refine s_iload hC dX11_least_151 rfl 10 rfl ?_
        refine s_aload hC dX11_least_153 rfl 0 rfl ?_
        refine s_iconst hC (v := 1) dX11_least_155 rfl (by decide) ?_
        refine s_newa hC 0 (at0 := .int) (ty := .int) (N' := 1) (a0 := (1, .inl (fun _ => 0))) rfl rfl tw_83 (fun _ => rfl) (by decide) (by decide) (by decide) (by show _ ≤ 656; have := hin9 c_1; omega) (by show _ ≤ 2408; have := hin9 c_1; omega) dX11_least_156 rfl (fun q_156 hq_156 => ?_)
        have hn_q_156 := RepM.ne hR_114 hq_156
        refine WP.rm (RepM.new hR_114 hq_156 _) (fun hR_q_156 => ?_)
        refine s_callV hC (ct_least2 l g _ _ _ _ hR_q_156 (pl + 1) (by omega) (nI j) q_82 (lsA σ pl f j) ((wup_n (w_ne (wup_s _ _ _) hq_156)).trans (wup_s _ _ _)) q_156 (fun _ => 0) 0 rfl (wup_s _ _ _) (w_ne (wup_s _ _ _) hq_156) hn_q_156) ce_X11_least cs_X11 (RepM.f_main hR_q_156) tw_1699 rfl rfl ⟨⟨le_b rfl, le_b rfl⟩, (by show _ ≤ 656; have := hin9 c_1; omega), (by show _ ≤ 2408; have := hin9 c_1; omega)⟩ (le_b rfl) dX11_least_158 rfl (fun r w h9 => ?_) nokx
        obtain ⟨rfl, F8, hF8, hf8, hk8⟩ := h9
        have hR_158 := RepM.keep hR_q_156 hn_q_156 hk8
        have hkk := hkk.call hq_156 hk8
        have hfw := hk8.get ((wup_n (w_ne ((wup_n (w_ne hWf hq_82)).trans hWf) hq_156)).trans ((wup_n (w_ne hWf hq_82)).trans hWf)) (w_ne ((wup_n (w_ne hWf hq_82)).trans hWf) hq_156)
        refine s_ladd hC dX11_least_161 rfl ?_
        refine WP.top (.long (lsG σ 2 pl f j)) (by rw [lsG, lsQ]) ?_
        refine s_lstore hC (L' := [(14, _), (13, _), (11, _), (9, _), (0, _), (1, _), (2, _), (3, _), (4, _), (5, _), (6, _), (8, _)]) dX11_least_162 rfl (le_b rfl) rfl ?_
        refine s_lload hC dX11_least_164 rfl 10 rfl ?_
        refine s_ldc2 hC tw_1703 dX11_least_166 rfl ?_
        refine s_lcmp hC dX11_least_169 rfl ?_
        refine z_lif_eq hC (tgt := 181) dX11_least_170 rfl (by decide) (fun c_5 => ?_) (fun c_5 => ?_)
        · refine s_lload hC dX11_least_181 rfl 0 rfl ?_
          refine s_lstore hC (L' := [(6, _), (14, _), (13, _), (11, _), (9, _), (0, _), (1, _), (2, _), (3, _), (4, _), (5, _), (8, _)]) dX11_least_183 rfl (le_b rfl) rfl ?_
          refine s_aload hC dX11_least_185 rfl 10 rfl ?_
          refine s_iconst hC (v := 0) dX11_least_187 rfl (by decide) ?_
          refine s_iload hC dX11_least_188 rfl 11 rfl ?_
          refine s_iast hC hfw (vp_in_nI (by decide : 0 < 1) (by decide)) dX11_least_190 rfl ?_
          refine WP.rm (RepM.by hR_158 hn_fa _) (fun hR_190 => ?_)
          refine s_iinc hC (v := _ + 1) (j9 := 11) (L' := [(8, _), (6, _), (14, _), (13, _), (11, _), (9, _), (0, _), (1, _), (2, _), (3, _), (4, _), (5, _)]) dX11_least_191 rfl rfl rfl (le_b rfl) rfl ?_
          refine s_goto hC (tgt := 8) dX11_least_194 (by decide) ?_
          refine WP.sub (L' := [(0, _), (1, _), (2, _), (3, _), (4, _), (5, _), (6, _), (8, _)]) [6, 7, 8, 9, 10, 11, 1, 0] rfl ?_
          refine WP.widen (k1 := 82 * (j + 1)) (n1 := 301 * (j + 1)) (by omega) (by omega) ?_
          refine ih (_, _, _, (upd F (Int32.toNatClampNeg 0) (nI j)), j + 1) ?_ ?_
          · dsimp only
            have h9 := hin9 c_1
            have he : lsF (lsG σ 2 pl f) ah fi (j + 1) = ((lsG σ 2 pl f) j, nI j) := by rw [lsF, if_neg c_3, if_pos c_5]
            rw [he]
            exact ⟨h9, nI_1 j, rfl, if_pos rfl, wup_s _ _ _, hkk.up _⟩
          · dsimp only
            have h9 := hin9 c_1; omega
        · refine s_lload hC dX11_least_173 rfl 0 rfl ?_
          refine s_lload hC dX11_least_175 rfl 10 rfl ?_
          refine s_lcmp hC dX11_least_177 rfl ?_
          refine z_lif_ge hC (tgt := 191) dX11_least_178 rfl (by decide) (fun c_6 => ?_) (fun c_6 => ?_)
          · refine s_iinc hC (v := _ + 1) (j9 := 11) (L' := [(8, _), (14, _), (13, _), (11, _), (9, _), (0, _), (1, _), (2, _), (3, _), (4, _), (5, _), (6, _)]) dX11_least_191 rfl rfl rfl (le_b rfl) rfl ?_
            refine s_goto hC (tgt := 8) dX11_least_194 (by decide) ?_
            refine WP.sub (L' := [(0, _), (1, _), (2, _), (3, _), (4, _), (5, _), (6, _), (8, _)]) [5, 6, 7, 8, 9, 10, 11, 0] rfl ?_
            refine WP.widen (k1 := 82 * (j + 1)) (n1 := 301 * (j + 1)) (by omega) (by omega) ?_
            refine ih (_, _, _, F, j + 1) ?_ ?_
            · dsimp only
              have h9 := hin9 c_1
              have he : lsF (lsG σ 2 pl f) ah fi (j + 1) = (lsF (lsG σ 2 pl f) ah fi j) := by rw [lsF, if_neg c_3, if_neg c_5, if_pos c_6]
              rw [he]
              exact ⟨h9, nI_1 j, rfl, hF, hfw, hkk⟩
            · dsimp only
              have h9 := hin9 c_1; omega
          · refine s_lload hC dX11_least_181 rfl 0 rfl ?_
            refine s_lstore hC (L' := [(6, _), (14, _), (13, _), (11, _), (9, _), (0, _), (1, _), (2, _), (3, _), (4, _), (5, _), (8, _)]) dX11_least_183 rfl (le_b rfl) rfl ?_
            refine s_aload hC dX11_least_185 rfl 10 rfl ?_
            refine s_iconst hC (v := 0) dX11_least_187 rfl (by decide) ?_
            refine s_iload hC dX11_least_188 rfl 11 rfl ?_
            refine s_iast hC hfw (vp_in_nI (by decide : 0 < 1) (by decide)) dX11_least_190 rfl ?_
            refine WP.rm (RepM.by hR_158 hn_fa _) (fun hR_190 => ?_)
            refine s_iinc hC (v := _ + 1) (j9 := 11) (L' := [(8, _), (6, _), (14, _), (13, _), (11, _), (9, _), (0, _), (1, _), (2, _), (3, _), (4, _), (5, _)]) dX11_least_191 rfl rfl rfl (le_b rfl) rfl ?_
            refine s_goto hC (tgt := 8) dX11_least_194 (by decide) ?_
            refine WP.sub (L' := [(0, _), (1, _), (2, _), (3, _), (4, _), (5, _), (6, _), (8, _)]) [6, 7, 8, 9, 10, 11, 1, 0] rfl ?_
            refine WP.widen (k1 := 82 * (j + 1)) (n1 := 301 * (j + 1)) (by omega) (by omega) ?_
            refine ih (_, _, _, (upd F (Int32.toNatClampNeg 0) (nI j)), j + 1) ?_ ?_
            · dsimp only
              have h9 := hin9 c_1
              have he : lsF (lsG σ 2 pl f) ah fi (j + 1) = ((lsG σ 2 pl f) j, nI j) := by rw [lsF, if_neg c_3, if_neg c_5, if_neg c_6]
              rw [he]
              exact ⟨h9, nI_1 j, rfl, if_pos rfl, wup_s _ _ _, hkk.up _⟩
            · dsimp only
              have h9 := hin9 c_1; omega
