section RMSTR
variable {g : Gl} {ad : Iy → Nat} {y : Ey} {s : St} {ω : Wd}
theorem RepM.xt (h : RepM g ad y s ω) {ω' : Wd} (e : xtW ω ω') : RepM g ad y s ω' := ⟨fun k hk => e _ _ (h.c k hk), h.inj, h.lB, h.lH, h.lO, h.hg, h.st⟩
/-- the contract's text is another now -/
def am_str (ad : Iy → Nat) (a v : Nat) : Iy → Nat
  | .inl 12 => a
  | .inl 13 => v
  | .inl q => ad (.inl q)
  | .inr i => ad (.inr i)
theorem am_str_l (ad : Iy → Nat) (a v : Nat) {q : Nat} (h : q ≠ 12) (h2 : q ≠ 13) : am_str ad a v (.inl q) = ad (.inl q) := by
  rcases q with _ | _ | _ | _ | _ | _ | _ | _ | _ | _ | _ | _ | _ | _ | q9 <;> first | rfl | exact absurd rfl h | exact absurd rfl h2
def yStr (y : Ey) : Ey := ((y.w_sd true).w_sh 0).w_sz false
theorem RepM.str (h : RepM g ad y s ω) {a v : Nat} {f : Nat → Int32} {ω' : Wd} (ha : ω a = none) (hv : ω v = none) (hva : v ≠ a) (h1 : ω' a = some (.inr (0, [.ref v, .int 0, .int 0, .int 0]))) (h2 : ω' v = some (.inl (g.2.1 2, 7, .inl f))) (hx : xtW ω ω') :
    RepM g (am_str ad a v) (yStr y) (s.w_order f) (wup ω' (ad .main) (.inr (16, List.set [.int y.th, .ref (ad .kinds), .ref (ad .refs), .ref (ad .depths), .ref (ad .waters), .ref (ad .bR), .ref (ad .bU), .ref (ad .bores), .ref (ad .rings), .ref (ad .wears), .ref (ad .houses), .int s.press, .int (bI s.foam), .int s.pR, .int s.pU, .int s.hR, .int s.hU, .int s.seg, .int s.pit, .int s.mn, .ref (ad .str), .ref (ad .waits)] 20 (.ref a)))) := by
  have hna : ∀ k, VM y s k → ad k ≠ a := fun k hk => w_ne (h.c k hk) ha
  have hnv : ∀ k, VM y s k → ad k ≠ v := fun k hk => w_ne (h.c k hk) hv
  have hsk : ∀ q : Nat, q ≠ 12 → q ≠ 13 → skW (yStr y) q → skW y q := by
    intro q z1 z2 h3
    rcases q with _ | _ | _ | _ | _ | _ | _ | _ | _ | _ | _ | _ | _ | _ | _ | _ | _ | q9 <;> first | exact h3 | exact absurd rfl z1 | exact absurd rfl z2
  have hold : ∀ k, VM y s k → k ≠ .main → wup ω' (ad .main) (.inr (16, List.set [.int y.th, .ref (ad .kinds), .ref (ad .refs), .ref (ad .depths), .ref (ad .waters), .ref (ad .bR), .ref (ad .bU), .ref (ad .bores), .ref (ad .rings), .ref (ad .wears), .ref (ad .houses), .int s.press, .int (bI s.foam), .int s.pR, .int s.pU, .int s.hR, .int s.hU, .int s.seg, .int s.pit, .int s.mn, .ref (ad .str), .ref (ad .waits)] 20 (.ref a))) (ad k) = some (cellM g ad y s k) := fun k hk hm => (wup_n (fun z9 => hm (h.inj k .main hk trivial z9))).trans (hx _ _ (h.c k hk))
  refine ⟨?_, ?_, h.lB, h.lH, h.lO, h.hg, fun z9 => by cases z9⟩
  · intro k hk
    rcases k with q | i | i | i
    · by_cases q0 : q = 0
      · subst q0; exact wup_s _ _ _
      · by_cases q1 : q = 12
        · subst q1; exact (wup_n (Ne.symm (hna .main trivial))).trans h1
        · by_cases q2 : q = 13
          · subst q2; exact (wup_n (Ne.symm (hnv .main trivial))).trans h2
          · rw [am_str_l ad _ _ q1 q2, hold (.inl q) (hsk q q1 q2 hk) (fun z9 => q0 (Sum.inl.inj z9))]
            refine congrArg some ?_
            rcases q with _ | _ | _ | _ | _ | _ | _ | _ | _ | _ | _ | _ | _ | _ | _ | _ | _ | q9 <;> first | rfl | exact absurd rfl q0 | exact absurd rfl q1 | exact absurd rfl q2
    · exact hold (.ring i) hk (fun z9 => by cases z9)
    · exact hold (.house i) hk (fun z9 => by cases z9)
    · exact hold (.bore i) hk (fun z9 => by cases z9)
  · have key : ∀ k, VM (yStr y) (s.w_order f) k → (k = .str ∧ am_str ad a v k = a) ∨ (k = .sval ∧ am_str ad a v k = v) ∨ (VM y s k ∧ am_str ad a v k = ad k) := by
      intro k hk
      rcases k with q | i | i | i
      · by_cases q1 : q = 12
        · subst q1; exact Or.inl ⟨rfl, rfl⟩
        · by_cases q2 : q = 13
          · subst q2; exact Or.inr (Or.inl ⟨rfl, rfl⟩)
          · exact Or.inr (Or.inr ⟨hsk q q1 q2 hk, am_str_l ad _ _ q1 q2⟩)
      · exact Or.inr (Or.inr ⟨hk, rfl⟩)
      · exact Or.inr (Or.inr ⟨hk, rfl⟩)
      · exact Or.inr (Or.inr ⟨hk, rfl⟩)
    intro k k' hk hk' he
    rcases key k hk with ⟨g1, g2⟩ | ⟨g1, g2⟩ | ⟨g1, g2⟩ <;> rcases key k' hk' with ⟨g4, g5⟩ | ⟨g4, g5⟩ | ⟨g4, g5⟩ <;> rw [g2, g5] at he
    · rw [g1, g4]
    · exact absurd he.symm hva
    · exact absurd he.symm (hna k' g4)
    · exact absurd he hva
    · rw [g1, g4]
    · exact absurd he.symm (hnv k' g4)
    · exact absurd he (hna k g1)
    · exact absurd he (hnv k g1)
    · exact h.inj k k' g1 g4 he
end RMSTR
section ROWB
variable {p : Program} {l : Launch} {e : Env} {R : Room} {s : State} {m : MethodId} {args : Array Value} {below : List Frame} {meth : Method} {c : Code} {nL : Nat} {g : Gl} {ω0 : Wd} {sz0 : Nat} {Q : State → Prop} {ω : Wd} {k n pc : Nat} {L : List (Nat × Value)} {rest : List Value}
/-- a row of bytes by other numbers that read alike -/
theorem WP.rowB {a N : Nat} {f f' : Nat → Int32} (hω : ω a = some (.inl (g.2.1 2, N, .inl f))) (h : ∀ k, k < N → f k = f' k) (kk : WP p l e R s m args below meth c g ω0 sz0 Q nL (wup ω a (.inl (g.2.1 2, N, .inl f'))) k n pc L rest) : WP p l e R s m args below meth c g ω0 sz0 Q nL ω k n pc L rest := fun H locs ls hw hk hS hl => by
  obtain ⟨ws, hP, hD, g1, g2, -⟩ := wh_all hw
  obtain ⟨q1, hq1⟩ := g1 a _ hω
  have hc1 : H[a]? = some (vp_cell (g.2.1 2) (N, .inl f)) := hP q1 _ hq1
  have he : vp_cell (g.2.1 2) (N, .inl f) = vp_cell (g.2.1 2) (N, .inl f') := by
    show arrV (g.2.1 2) N (fun j => .int (f j)) = arrV (g.2.1 2) N (fun j => .int (f' j))
    unfold arrV
    congr 1
    first
      | (refine congrArg List.toArray ?_; exact List.map_congr_left (fun j hj => by rw [h j (List.mem_range.mp hj)]))
      | (apply Array.ext' ; simp; intro j hj; rw [h j hj])
      | (ext j h1 h2 <;> simp at * <;> rw [h j (by omega)])
  exact kk H locs ls (g2 q1 a _ (.inl (g.2.1 2, N, .inl f')) _ hq1 (hP.set hD hq1 (show H[a]? = some (vp_cell (g.2.1 2) (N, .inl f')) by rw [hc1, he]) (fun q _ => rfl)) (hD.set hq1)) (kp_up hk _ _) hS hl
end ROWB
theorem pf_cat {o g2 g4 : Nat → Int32} {c : Int32} {q : Nat} (hq : q < 7) (hc : o q = c) (h2 : ∀ k, k < q - 0 → g2 k = o (0 + k)) (h4 : ∀ k, k < 7 - (q + 1) → g4 k = o (q + 1 + k)) : ∀ k, k < 7 → va_cpy g4 (va_cpy g2 (upd (fun _ => 0) 0 c) 0 (0 + 1) (q - 0)) 0 (0 + 1 + (q - 0)) (7 - (q + 1)) k = pfF o q k := by
  intro k hk
  unfold va_cpy pfF upd
  by_cases k0 : k = 0
  · subst k0
    rw [if_neg (by omega), if_neg (by omega), if_pos rfl, if_pos rfl, hc]
  · by_cases kq : k ≤ q
    · rw [if_neg (by omega), if_pos (by omega), if_neg k0, if_pos kq, h2 _ (by omega)]
      exact congrArg o (by omega)
    · rw [if_pos (by omega), if_neg k0, if_neg kq, h4 _ (by omega)]
      exact congrArg o (by omega)
