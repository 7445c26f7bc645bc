set_option maxHeartbeats 1000000 in
set_option maxRecDepth 100000 in
theorem lw_disp {p : Program} {l : Launch} {e : Env} {R : Room} {s : State} {m : MethodId} {args : Array Value} {below : List Frame} {meth : Method} {c : Code} {g : Gl} {ω0 : Wd} {sz0 : Nat} {Q : State → Prop} {k n : Nat} (hC : Cx p l e R s m args below meth c cL_law 9 "BoringheadLaw" g ω0 sz0) (hst : l.stackTraces = false) (hN : NCs s) {b Ls : Nat} {xs : Nat → Int32} (hX : LX g ω0 sz0 s b Ls xs) (hRf : 60 ≤ R.frames) (hRl : 2000 ≤ R.locals) (hRk : k + 670 ≤ R.cells) (hRn : n + 2700 ≤ R.slots) {t : Nat} (hi : 5 * t + 5 ≤ Ls) {mC mM lo lD : Nat} {σ : St} (hI : Inv σ) {ω : Wd} (hL : LH g mC mM lo lD ω σ)
    (kk : ∀ ω' σ', Inv σ' → LH g mC mM lo lD ω' σ' → WP p l e R s m args below meth c g ω0 sz0 Q 9 ω' (k + 670) (n + 2700) 2920 (lwL b mC mM lo lD (nI (5 * t))) []) : WP p l e R s m args below meth c g ω0 sz0 Q 9 ω k n 37 (lwL b mC mM lo lD (nI (5 * t))) [] := by
  refine s_aload_n hC dL_law_37 rfl rfl 1 rfl ?_
  refine s_iload hC dL_law_38 rfl 0 rfl ?_
  refine s_sldX hC hX (5 * t) rfl (by omega) dL_law_40 rfl ?_
  refine s_bipush hC (v := 63) dL_law_41 rfl (by decide) ?_
  refine s_iand hC dL_law_43 rfl ?_
  obtain ⟨q, hq, he⟩ := an_63 (xs (5 * t))
  rw [he]
  by_cases h48 : q < 48
  · match q, h48 with
    | 0, _ => exact s_tabIn hC dL_law_44 (off := 208) (tgt := 252) (by decide) (by decide) (by rfl) (by decide) (lc_ground hC hst hN hX hRf hRl hRk hRn hi hI hL kk)
    | 1, _ => exact s_tabIn hC dL_law_44 (off := 290) (tgt := 334) (by decide) (by decide) (by rfl) (by decide) (lc_reference hC hst hN hX hRf hRl hRk hRn hi hI hL kk)
    | 2, _ => exact s_tabIn hC dL_law_44 (off := 372) (tgt := 416) (by decide) (by decide) (by rfl) (by decide) (lc_depth hC hst hN hX hRf hRl hRk hRn hi hI hL kk)
    | 3, _ => exact s_tabIn hC dL_law_44 (off := 452) (tgt := 496) (by decide) (by decide) (by rfl) (by decide) (lc_water hC hst hN hX hRf hRl hRk hRn hi hI hL kk)
    | 4, _ => exact s_tabIn hC dL_law_44 (off := 532) (tgt := 576) (by decide) (by decide) (by rfl) (by decide) (lc_bend hC hst hN hX hRf hRl hRk hRn hi hI hL kk)
    | 5, _ => exact s_tabIn hC dL_law_44 (off := 624) (tgt := 668) (by decide) (by decide) (by rfl) (by decide) (lc_bore hC hst hN hX hRf hRl hRk hRn hi hI hL kk)
    | 6, _ => exact s_tabIn hC dL_law_44 (off := 694) (tgt := 738) (by decide) (by decide) (by rfl) (by decide) (lc_guess hC hst hN hX hRf hRl hRk hRn hi hI hL kk)
    | 7, _ => exact s_tabIn hC dL_law_44 (off := 750) (tgt := 794) (by decide) (by decide) (by rfl) (by decide) (lc_doubt hC hst hN hX hRf hRl hRk hRn hi hI hL kk)
    | 8, _ => exact s_tabIn hC dL_law_44 (off := 806) (tgt := 850) (by decide) (by decide) (by rfl) (by decide) (lc_pressure hC hst hN hX hRf hRl hRk hRn hi hI hL kk)
    | 9, _ => exact s_tabIn hC dL_law_44 (off := 862) (tgt := 906) (by decide) (by decide) (by rfl) (by decide) (lc_lower hC hst hN hX hRf hRl hRk hRn hi hI hL kk)
    | 10, _ => exact s_tabIn hC dL_law_44 (off := 918) (tgt := 962) (by decide) (by decide) (by rfl) (by decide) (lc_upper hC hst hN hX hRf hRl hRk hRn hi hI hL kk)
    | 11, _ => exact s_tabIn hC dL_law_44 (off := 974) (tgt := 1018) (by decide) (by decide) (by rfl) (by decide) (lc_foam hC hst hN hX hRf hRl hRk hRn hi hI hL kk)
    | 12, _ => exact s_tabIn hC dL_law_44 (off := 1015) (tgt := 1059) (by decide) (by decide) (by rfl) (by decide) (lc_worn hC hst hN hX hRf hRl hRk hRn hi hI hL kk)
    | 13, _ => exact s_tabIn hC dL_law_44 (off := 1071) (tgt := 1115) (by decide) (by decide) (by rfl) (by decide) (lc_change hC hst hN hX hRf hRl hRk hRn hi hI hL kk)
    | 14, _ => exact s_tabIn hC dL_law_44 (off := 1127) (tgt := 1171) (by decide) (by decide) (by rfl) (by decide) (lc_steer hC hst hN hX hRf hRl hRk hRn hi hI hL kk)
    | 15, _ => exact s_tabIn hC dL_law_44 (off := 1195) (tgt := 1239) (by decide) (by decide) (by rfl) (by decide) (lc_bars hC hst hN hX hRf hRl hRk hRn hi hI hL kk)
    | 16, _ => exact s_tabIn hC dL_law_44 (off := 1251) (tgt := 1295) (by decide) (by decide) (by rfl) (by decide) (lc_advance hC hst hN hX hRf hRl hRk hRn hi hI hL kk)
    | 17, _ => exact s_tabIn hC dL_law_44 (off := 1307) (tgt := 1351) (by decide) (by decide) (by rfl) (by decide) (lc_rings hC hst hN hX hRf hRl hRk hRn hi hI hL kk)
    | 18, _ => exact s_tabIn hC dL_law_44 (off := 1320) (tgt := 1364) (by decide) (by decide) (by rfl) (by decide) (lc_off hC hst hN hX hRf hRl hRk hRn hi hI hL kk)
    | 19, _ => exact s_tabIn hC dL_law_44 (off := 1404) (tgt := 1448) (by decide) (by decide) (by rfl) (by decide) (lc_heading hC hst hN hX hRf hRl hRk hRn hi hI hL kk)
    | 20, _ => exact s_tabIn hC dL_law_44 (off := 1445) (tgt := 1489) (by decide) (by decide) (by rfl) (by decide) (lc_rotation hC hst hN hX hRf hRl hRk hRn hi hI hL kk)
    | 21, _ => exact s_tabIn hC dL_law_44 (off := 1501) (tgt := 1545) (by decide) (by decide) (by rfl) (by decide) (lc_plan hC hst hN hX hRf hRl hRk hRn hi hI hL kk)
    | 22, _ => exact s_tabIn hC dL_law_44 (off := 1557) (tgt := 1601) (by decide) (by decide) (by rfl) (by decide) (lc_squares hC hst hN hX hRf hRl hRk hRn hi hI hL kk)
    | 23, _ => exact s_tabIn hC dL_law_44 (off := 1612) (tgt := 1656) (by decide) (by decide) (by rfl) (by decide) (lc_offRings hC hst hN hX hRf hRl hRk hRn hi hI hL kk)
    | 24, _ => exact s_tabIn hC dL_law_44 (off := 1625) (tgt := 1669) (by decide) (by decide) (by rfl) (by decide) (lc_grout hC hst hN hX hRf hRl hRk hRn hi hI hL kk)
    | 25, _ => exact s_tabIn hC dL_law_44 (off := 1693) (tgt := 1737) (by decide) (by decide) (by rfl) (by decide) (lc_lost hC hst hN hX hRf hRl hRk hRn hi hI hL kk)
    | 26, _ => exact s_tabIn hC dL_law_44 (off := 1749) (tgt := 1793) (by decide) (by decide) (by rfl) (by decide) (lc_house hC hst hN hX hRf hRl hRk hRn hi hI hL kk)
    | 27, _ => exact s_tabIn hC dL_law_44 (off := 1829) (tgt := 1873) (by decide) (by decide) (by rfl) (by decide) (lc_settles hC hst hN hX hRf hRl hRk hRn hi hI hL kk)
    | 28, _ => exact s_tabIn hC dL_law_44 (off := 1913) (tgt := 1957) (by decide) (by decide) (by rfl) (by decide) (lc_tilt hC hst hN hX hRf hRl hRk hRn hi hI hL kk)
    | 29, _ => exact s_tabIn hC dL_law_44 (off := 1969) (tgt := 2013) (by decide) (by decide) (by rfl) (by decide) (lc_damage hC hst hN hX hRf hRl hRk hRn hi hI hL kk)
    | 30, _ => exact s_tabIn hC dL_law_44 (off := 2025) (tgt := 2069) (by decide) (by decide) (by rfl) (by decide) (lc_read hC hst hN hX hRf hRl hRk hRn hi hI hL kk)
    | 31, _ => exact s_tabIn hC dL_law_44 (off := 2081) (tgt := 2125) (by decide) (by decide) (by rfl) (by decide) (lc_alarm hC hst hN hX hRf hRl hRk hRn hi hI hL kk)
    | 32, _ => exact s_tabIn hC dL_law_44 (off := 2137) (tgt := 2181) (by decide) (by decide) (by rfl) (by decide) (lc_lift hC hst hN hX hRf hRl hRk hRn hi hI hL kk)
    | 33, _ => exact s_tabIn hC dL_law_44 (off := 2233) (tgt := 2277) (by decide) (by decide) (by rfl) (by decide) (lc_deliver hC hst hN hX hRf hRl hRk hRn hi hI hL kk)
    | 34, _ => exact s_tabIn hC dL_law_44 (off := 2289) (tgt := 2333) (by decide) (by decide) (by rfl) (by decide) (lc_muck hC hst hN hX hRf hRl hRk hRn hi hI hL kk)
    | 35, _ => exact s_tabIn hC dL_law_44 (off := 2302) (tgt := 2346) (by decide) (by decide) (by rfl) (by decide) (lc_lorries hC hst hN hX hRf hRl hRk hRn hi hI hL kk)
    | 36, _ => exact s_tabIn hC dL_law_44 (off := 2358) (tgt := 2402) (by decide) (by decide) (by rfl) (by decide) (lc_now hC hst hN hX hRf hRl hRk hRn hi hI hL kk)
    | 37, _ => exact s_tabIn hC dL_law_44 (off := 2371) (tgt := 2415) (by decide) (by decide) (by rfl) (by decide) (lc_pause hC hst hN hX hRf hRl hRk hRn hi hI hL kk)
    | 38, _ => exact s_tabIn hC dL_law_44 (off := 2455) (tgt := 2499) (by decide) (by decide) (by rfl) (by decide) (lc_first hC hst hN hX hRf hRl hRk hRn hi hI hL kk)
    | 39, _ => exact s_tabIn hC dL_law_44 (off := 2513) (tgt := 2557) (by decide) (by decide) (by rfl) (by decide) (lc_waited hC hst hN hX hRf hRl hRk hRn hi hI hL kk)
    | 40, _ => exact s_tabIn hC dL_law_44 (off := 2571) (tgt := 2615) (by decide) (by decide) (by rfl) (by decide) (lc_events hC hst hN hX hRf hRl hRk hRn hi hI hL kk)
    | 41, _ => exact s_tabIn hC dL_law_44 (off := 2584) (tgt := 2628) (by decide) (by decide) (by rfl) (by decide) (lc_notice hC hst hN hX hRf hRl hRk hRn hi hI hL kk)
    | 42, _ => exact s_tabIn hC dL_law_44 (off := 2647) (tgt := 2691) (by decide) (by decide) (by rfl) (by decide) (lc_claimed hC hst hN hX hRf hRl hRk hRn hi hI hL kk)
    | 43, _ => exact s_tabIn hC dL_law_44 (off := 2660) (tgt := 2704) (by decide) (by decide) (by rfl) (by decide) (lc_count hC hst hN hX hRf hRl hRk hRn hi hI hL kk)
    | 44, _ => exact s_tabIn hC dL_law_44 (off := 2718) (tgt := 2762) (by decide) (by decide) (by rfl) (by decide) (lc_groutShare hC hst hN hX hRf hRl hRk hRn hi hI hL kk)
    | 45, _ => exact s_tabIn hC dL_law_44 (off := 2784) (tgt := 2828) (by decide) (by decide) (by rfl) (by decide) (lc_meanMinutes hC hst hN hX hRf hRl hRk hRn hi hI hL kk)
    | 46, _ => exact s_tabIn hC dL_law_44 (off := 2849) (tgt := 2893) (by decide) (by decide) (by rfl) (by decide) (lc_checksum hC hst hN hX hRf hRl hRk hRn hi hI hL kk)
    | 47, _ => exact s_tabIn hC dL_law_44 (off := 2863) (tgt := 2907) (by decide) (by decide) (by rfl) (by decide) (lc_isSound hC hst hN hX hRf hRl hRk hRn hi hI hL kk)
    | q + 48, h9 => exact absurd h9 (by omega)
  · refine s_tabOut hC dL_law_44 (tgt := 2920) (Or.inr (by rw [nI_toInt (by omega)]; omega)) (by decide) ?_
    exact WP.widen (by omega) (by omega) (kk ω σ hI hL)
theorem lw_iter {p : Program} {l : Launch} {e : Env} {R : Room} {s : State} {m : MethodId} {args : Array Value} {below : List Frame} {meth : Method} {c : Code} {g : Gl} {ω0 : Wd} {sz0 : Nat} {Q : State → Prop} {k n : Nat} (hC : Cx p l e R s m args below meth c cL_law 9 "BoringheadLaw" g ω0 sz0) (hst : l.stackTraces = false) (hN : NCs s) {b Ls : Nat} {xs : Nat → Int32} (hX : LX g ω0 sz0 s b Ls xs) (hRf : 60 ≤ R.frames) (hRl : 2000 ≤ R.locals) (hRk : k + 670 ≤ R.cells) (hRn : n + 2700 ≤ R.slots) {t : Nat} (ht : t ≤ 512) {mC mM lo lD : Nat} {σ : St} (hI : Inv σ) {ω : Wd} (hL : LH g mC mM lo lD ω σ)
    (kend : WP p l e R s m args below meth c g ω0 sz0 Q 9 ω k n 2926 (lwL b mC mM lo lD (nI (5 * t))) [])
    (IH : 5 * t + 5 ≤ Ls → ∀ ω' σ', Inv σ' → LH g mC mM lo lD ω' σ' → WP p l e R s m args below meth c g ω0 sz0 Q 9 ω' (k + 670) (n + 2700) 28 (lwL b mC mM lo lD (nI (5 * (t + 1)))) []) : WP p l e R s m args below meth c g ω0 sz0 Q 9 ω k n 28 (lwL b mC mM lo lD (nI (5 * t))) [] := by
  have hLs : Ls ≤ 2560 := hX.2.2.2
  refine s_iload hC dL_law_28 rfl 0 rfl ?_
  refine s_aload_n hC dL_law_30 rfl rfl 1 rfl ?_
  refine s_slenX hC hX dL_law_31 rfl ?_
  refine s_iconst hC (v := 5) dL_law_32 rfl (by decide) ?_
  refine s_isub hC dL_law_33 rfl ?_
  refine s_icmp_gt hC (tgt := 2926) dL_law_34 rfl (by decide) (fun _ => kend) (fun hle => ?_)
  have hi : 5 * t + 5 ≤ Ls := by
    rw [Int32.lt_iff_toInt_lt, i_sub (by rw [nI_toInt (by omega), show (5 : Int32).toInt = 5 from rfl]; omega) (by rw [nI_toInt (by omega), show (5 : Int32).toInt = 5 from rfl]; omega), nI_toInt (by omega), nI_toInt (by omega), show (5 : Int32).toInt = 5 from rfl] at hle
    omega
  refine lw_disp hC hst hN hX hRf hRl hRk hRn hi hI hL (fun ω' σ' hI' hL' => ?_)
  refine s_iinc hC (j9 := 0) (v := nI (5 * (t + 1))) (L' := lwL b mC mM lo lD (nI (5 * (t + 1)))) dL_law_2920 rfl rfl ?_ (le_b rfl) rfl ?_
  · rw [show Int32.ofInt 5 = nI 5 by decide]
    exact nI_add (5 * t) 5
  · exact s_goto hC (tgt := 28) dL_law_2923 (by decide) (IH hi ω' σ' hI' hL')
theorem lw_loop {p : Program} {l : Launch} {e : Env} {R : Room} {s : State} {m : MethodId} {args : Array Value} {below : List Frame} {meth : Method} {c : Code} {g : Gl} {ω0 : Wd} {sz0 : Nat} {Q : State → Prop} (hC : Cx p l e R s m args below meth c cL_law 9 "BoringheadLaw" g ω0 sz0) (hst : l.stackTraces = false) (hN : NCs s) {b Ls : Nat} {xs : Nat → Int32} (hX : LX g ω0 sz0 s b Ls xs) (hRf : 60 ≤ R.frames) (hRl : 2000 ≤ R.locals) {K0 N0 : Nat} (hRk : K0 + 343040 + 670 ≤ R.cells) (hRn : N0 + 1382400 + 2700 ≤ R.slots) {mC mM lo lD : Nat}
    (kend : ∀ ω' i k n, k ≤ K0 + 343040 → n ≤ N0 + 1382400 → WP p l e R s m args below meth c g ω0 sz0 Q 9 ω' k n 2926 (lwL b mC mM lo lD i) []) (r : Nat) : ∀ (t : Nat) (ω : Wd) (σ : St) (k n : Nat), Ls ≤ 5 * t + r → t ≤ 512 → k ≤ K0 + 670 * t → n ≤ N0 + 2700 * t → Inv σ → LH g mC mM lo lD ω σ → WP p l e R s m args below meth c g ω0 sz0 Q 9 ω k n 28 (lwL b mC mM lo lD (nI (5 * t))) [] := by
  have hLs : Ls ≤ 2560 := hX.2.2.2
  induction r with
  | zero => exact fun t ω σ k n h1 h2 h3 h4 hI hL => lw_iter hC hst hN hX hRf hRl (by omega) (by omega) h2 hI hL (kend _ _ _ _ (by omega) (by omega)) (fun h => absurd h (by omega))
  | succ r ih => exact fun t ω σ k n h1 h2 h3 h4 hI hL => lw_iter hC hst hN hX hRf hRl (by omega) (by omega) h2 hI hL (kend _ _ _ _ (by omega) (by omega)) (fun h ω' σ' hI' hL' => ih (t + 1) ω' σ' (k + 670) (n + 2700) (by omega) (by omega) (by omega) (by omega) hI' hL')
def nil : Wd := fun _ => none
theorem wjn_nil (a : Wd) : wjn a nil = a := by
  funext q
  cases h : a q with
  | some e => exact wjn_l h
  | none => exact wjn_r h
theorem wup_one {w : Wd} {a : Nat} {e : va_E} (h : w a = none) : wup w a e = wjn (wup nil a e) w := by
  funext q
  by_cases hq : q = a
  · rw [hq, wup_s, wjn_l (wup_s _ _ _)]
  · rw [wup_n hq, wjn_r (by rw [wup_n hq]; rfl)]
theorem djn_one {w : Wd} {a : Nat} {e : va_E} (h : w a = none) : djn (wup nil a e) w := fun q => by
  by_cases hq : q = a
  · exact Or.inr (by rw [hq]; exact h)
  · exact Or.inl (by rw [wup_n hq]; rfl)
theorem djn_nil (a : Wd) : djn a nil := fun _ => Or.inr rfl
/-- the two rows of answers, made behind class and model -/
theorem two_rows {wc wm : Wd} (hd : djn wm wc) {lo lD : Nat} {e1 e2 : va_E} (h1 : wjn wm wc lo = none) (h2 : wup (wjn wm wc) lo e1 lD = none) : wup (wup (wjn wm wc) lo e1) lD e2 = wjn wc (wjn wm (wup (wup nil lo e1) lD e2)) ∧ djn wc (wjn wm (wup (wup nil lo e1) lD e2)) ∧ djn wm (wup (wup nil lo e1) lD e2) ∧ wup (wup nil lo e1) lD e2 lo = some e1 ∧ wup (wup nil lo e1) lD e2 lD = some e2 := by
  have hne : lD ≠ lo := fun z => by
    rw [z, wup_s] at h2
    cases h2
  rw [wup_n hne] at h2
  obtain ⟨a1, a2⟩ := wjn_none.mp h1
  obtain ⟨b1, b2⟩ := wjn_none.mp h2
  have d1 : djn wm (wup (wup nil lo e1) lD e2) := djn_up (djn_up (djn_nil wm) a1) b1
  have d2 : djn wc (wup (wup nil lo e1) lD e2) := djn_up (djn_up (djn_nil wc) a2) b2
  refine ⟨?_, djn_join (djn_sym hd) d2, d1, by rw [wup_n (Ne.symm hne), wup_s], wup_s _ _ _⟩
  have e0 : wjn wm wc = wjn wc (wjn wm nil) := by rw [wjn_nil, wjn_comm hd]
  rw [e0, wjn_up a2, wjn_up a1, wjn_up b2, wjn_up b1]
set_option maxHeartbeats 1000000 in
set_option maxRecDepth 100000 in
theorem lw_begin {p : Program} {l : Launch} {e : Env} {R : Room} {s : State} {m : MethodId} {args : Array Value} {below : List Frame} {meth : Method} {c : Code} {g : Gl} {sz0 : Nat} {Q : State → Prop} (hC : Cx p l e R s m args below meth c cL_law 9 "BoringheadLaw" g nil sz0) (hst : l.stackTraces = false) (hN : NCs s) {b Ls : Nat} {xs : Nat → Int32} (hX : LX g nil sz0 s b Ls xs) (hRf : 60 ≤ R.frames) (hRl : 2000 ≤ R.locals) (hg : g.2.1 3 ≠ g.2.1 0) (hRk : 343800 ≤ R.cells) (hRn : 1400000 ≤ R.slots)
    (kend : ∀ ω' L k n, k ≤ 343100 → n ≤ 1390000 → WP p l e R s m args below meth c g nil sz0 Q 9 ω' k n 2926 L []) : WP p l e R s m args below meth c g nil sz0 Q 9 nil 0 0 0 [(0, .ref b)] [] := by
  have hLs : Ls ≤ 2560 := hX.2.2.2
  refine s_new hC cs_X9 (fs := [.null, .null, .null, .null, .null, .null, .null, .null, .null]) tw_40 tw_41 tw_1 (fun j hj => by rcases (show j = 0 ∨ j = 1 ∨ j = 2 ∨ j = 3 ∨ j = 4 ∨ j = 5 ∨ j = 6 ∨ j = 7 ∨ j = 8 by omega) with rfl | rfl | rfl | rfl | rfl | rfl | rfl | rfl | rfl <;> rfl) (by omega) (by omega) dL_law_0 rfl (fun mC hqC => ?_)
  refine s_dup hC dL_law_3 rfl rfl ?_
  refine s_callI hC (ct_X9_init l g _ mC (wup_s _ _ _) hg) ce_X9_init tw_42 rfl rfl ⟨⟨Nat.le_trans (le_b rfl) hRf, Nat.le_trans (le_b rfl) hRl⟩, by omega, by omega⟩ (le_b rfl) dL_law_4 rfl (fun r wc h9 => ?_) (fun E w h9 => h9.elim)
  obtain ⟨adc, rfl, hRc, hmC, -⟩ := h9
  refine s_astore_n hC (L' := [(1, _), (0, _)]) dL_law_7 rfl rfl (le_b rfl) rfl ?_
  refine s_new hC cs_X11 (fs := [.int 0, .null, .null, .null, .null, .null, .null, .null, .null, .null, .null, .int 0, .int 0, .int 0, .int 0, .int 0, .int 0, .int 0, .int 0, .int 0, .null, .null]) tw_1240 tw_1241 tw_11 (fun j hj => by rcases (show j = 0 ∨ j = 1 ∨ j = 2 ∨ j = 3 ∨ j = 4 ∨ j = 5 ∨ j = 6 ∨ j = 7 ∨ j = 8 ∨ j = 9 ∨ j = 10 ∨ j = 11 ∨ j = 12 ∨ j = 13 ∨ j = 14 ∨ j = 15 ∨ j = 16 ∨ j = 17 ∨ j = 18 ∨ j = 19 ∨ j = 20 ∨ j = 21 by omega) with rfl | rfl | rfl | rfl | rfl | rfl | rfl | rfl | rfl | rfl | rfl | rfl | rfl | rfl | rfl | rfl | rfl | rfl | rfl | rfl | rfl | rfl <;> rfl) (by omega) (by omega) dL_law_8 rfl (fun mM hqM => ?_)
  refine s_dup hC dL_law_11 rfl rfl ?_
  refine WP.of (wup_one hqM) ?_
  refine s_callI hC (CT.frame (ct_X11_init l g _ mM (wup_s _ _ _) hg) (djn_one hqM)) ce_X11_init tw_1242 rfl rfl ⟨⟨Nat.le_trans (le_b rfl) hRf, Nat.le_trans (le_b rfl) hRl⟩, by omega, by omega⟩ (le_b rfl) dL_law_12 rfl (fun r w h9 => ?_) (fun E w h9 => h9.choose_spec.1.elim)
  obtain ⟨wm, ⟨adm, rfl, hRm, hmM, -⟩, rfl, hd⟩ := h9
  refine s_astore_n hC (L' := [(2, _), (1, _), (0, _)]) dL_law_15 rfl rfl (le_b rfl) rfl ?_
  refine s_iconst hC (v := 1) dL_law_16 rfl (by decide) ?_
  refine s_newa hC 4 (at0 := .long) (ty := .long) (N' := 1) (a0 := (1, .inr (.inl (fun _ => 0)))) rfl rfl tw_1704 (fun _ => rfl) (by decide) (by decide) (by decide) (by omega) (by omega) dL_law_17 rfl (fun lo hlo => ?_)
  refine s_astore_n hC (L' := [(3, _), (2, _), (1, _), (0, _)]) dL_law_19 rfl rfl (le_b rfl) rfl ?_
  refine s_iconst hC (v := 1) dL_law_20 rfl (by decide) ?_
  refine s_newa hC 5 (at0 := .double) (ty := .double) (N' := 1) (a0 := (1, .inr (.inr (.inr (.inl (fun _ => 0)))))) rfl rfl tw_2085 (fun _ => rfl) (by decide) (by decide) (by decide) (by omega) (by omega) dL_law_21 rfl (fun lD hlD => ?_)
  refine s_astore hC (L' := [(4, _), (3, _), (2, _), (1, _), (0, _)]) dL_law_23 rfl (le_b rfl) rfl ?_
  refine s_iconst hC (v := 0) dL_law_25 rfl (by decide) ?_
  refine s_istore hC (L' := [(5, _), (4, _), (3, _), (2, _), (1, _), (0, _)]) dL_law_26 rfl (le_b rfl) rfl ?_
  refine WP.sub (L' := lwL b mC mM lo lD (nI (5 * 0))) [0, 5, 4, 3, 2, 1] rfl ?_
  obtain ⟨e1, e2, e3, e4, e5⟩ := two_rows hd hlo hlD
  exact lw_loop hC hst hN hX hRf hRl (K0 := 50) (N0 := 3000) (by omega) (by omega) (fun ω' i k n h1 h2 => kend ω' _ k n (by omega) (by omega)) Ls 0 _ s00 _ _ (by omega) (by omega) (le_b rfl) (le_b rfl) Inv.at_s00 ⟨_, _, _, wc, wm, _, adc, x00, adm, y00, hRc, hmC, hRm, hmM, rfl, fun i hi => absurd hi (Nat.not_lt_zero i), e1, e2, e3, e4, e5⟩
