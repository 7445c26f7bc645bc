/-! bodies with handlers: the law's helpers -/
def exNs : List String := ["java/lang/IllegalArgumentException", "java/lang/UnsupportedOperationException", "java/lang/IllegalStateException", "java/lang/IndexOutOfBoundsException"]
/-- none of them is another of them -/
def NCs (U : State) : Prop := ∀ a ∈ exNs, ∀ b ∈ exNs, a ≠ b → va_Nc a b U
theorem NCs.warm {s U : State} (hW : s.WarmedH U.vm) (h : NCs s) : NCs U := fun a ha b hb hab => (h a ha b hb hab).moved hW.alike
def Pch (g : Gl) (As : List Value) (ω : Wd) (sz : Nat) : Array Value → State → Prop := fun a U => Pcs g As ω sz a U ∧ NCs U
theorem Pch_blind {g : Gl} {ω : Wd} (As : List Value) (sz : Nat) : FrameBlind (Pch g As ω sz) := fun a U g9 mk h => ⟨Pcs_blind As sz a U g9 mk h.1, NCs.warm (s := U) (U := U.calling g9 mk a) (State.WarmedH.refl U) h.2⟩
def CTH (l : Launch) (g : Gl) (y : MethodName) (cc : ByteArray) (mL : Nat) (rt : Option FieldType) (hh : List (Nat × Nat × Nat × Nat)) (fr lo mc ms : Nat) (As : List Value) (ω : Wd) (post : Option Value → Wd → Prop) : Prop :=
  ∀ sz, vx_Met l y (Cond.codeWith y cc mL rt hh :: W0) { frames := fr, cells := mc, slots := ms, locals := lo } (Pch g As ω sz) (Qs g ω sz post) (Xs g ω sz nox) mc ms (frA ω sz)
theorem CTH.of {l : Launch} {g : Gl} {y : MethodName} {cc : ByteArray} {mL : Nat} {rt : Option FieldType} {hh : List (Nat × Nat × Nat × Nat)} {fr lo mc ms : Nat} {As : List Value} {ω : Wd} {post : Option Value → Wd → Prop} {L0 : List (Nat × Value)} {own : String} (ho : y.cls = own) (hy : plainName y.cls = true) (hA : (lg_sl As).length ≤ mL) (hL0 : lv_args 0 As = L0)
    (body : ∀ p e s m args below meth c sz0, Cx p l e { frames := fr, cells := mc, slots := ms, locals := lo } s m args below meth c cc mL own g ω sz0 → meth.sig.returnType = rt → c.exceptionTable.toList = tableOf hh → NCs s →
      WP p l e { frames := fr, cells := mc, slots := ms, locals := lo } s m args below meth c g ω sz0 (Qm below args s g ω sz0 post nox mc ms) mL ω 0 0 0 L0 []) : CTH l g y cc mL rt hh fr lo mc ms As ω post := by
  subst ho
  intro sz
  refine vx_ofWH (cc := cc) (maxL := mL) (ret := rt) (hh := hh) hy rfl ?_
  intro p e s m args below meth c s₁ B hml hv
  obtain ⟨⟨rfl, hsz, hw, hG, hz, hd⟩, hN⟩ := hv
  have hts := atoms_spec (ws := Cond.codeWith y cc mL rt hh :: W0) B.pre
  have hC : Cx p l e { frames := fr, cells := mc, slots := ms, locals := lo } s m As.toArray below meth c cc mL y.cls g ω sz := ⟨B.exec, B.bytes, hml, findClass_of_methodNamed B.named, fun w hw => hts w (List.mem_cons_of_mem _ hw), hG, B.notSynchronized, hsz, hz, hd⟩
  have hl := lv_entry As (n := mL) hA
  rw [hL0] at hl
  rw [lg_entry_eq]
  exact body p e s m As.toArray below meth c sz hC B.returns (vx_table (x := y) B (hts _ List.mem_cons_self)) hN s.heap [] _ (wh_weak hw (fun a ha _ => Or.inl ha)) (kp_rf ω) va_S.rf hl
/-- what the tables say of a static callee with handlers -/
def CeX (y : MethodName) (bytes : ByteArray) (maxL : Nat) (ret : Option FieldType) (hh : List (Nat × Nat × Nat × Nat)) (nA : Nat) : Prop := Cond.codeWith y bytes maxL ret hh ∈ lw_tbl ∧ Cond.static y ∈ lw_tbl ∧ Cond.initialized y.cls ∈ lw_tbl ∧ (y.cls ≠ "java/lang/invoke/MethodHandle" ∧ y.cls ≠ "java/lang/invoke/VarHandle" ∧ (parseMethodDescriptor y.desc).map (fun d => d.parameters.length) = some nA)
theorem goodX {y : MethodName} {bytes : ByteArray} {maxL : Nat} {ret : Option FieldType} {hh : List (Nat × Nat × Nat × Nat)} (h : Cond.codeWith y bytes maxL ret hh ∈ lw_tbl) : GoodIn W0 (Cond.codeWith y bytes maxL ret hh :: W0) := fun w hw => by
  rcases List.mem_cons.mp hw with rfl | hw
  · exact ⟨W0_in h rfl, Or.inl rfl⟩
  · exact W0_good w hw
section CTHS
variable {p : Program} {l : Launch} {e : Env} {R : Room} {s : State} {m : MethodId} {args : Array Value} {below : List Frame} {meth : Method} {c : Code} {cc : ByteArray} {nL : Nat} {own : String} {g : Gl} {ω0 : Wd} {sz0 : Nat} {Q : State → Prop} {ω : Wd} {k n pc pc' : Nat} {L : List (Nat × Value)} {rest : List Value}
theorem s_catch (hC : Cx p l e R s m args below meth c cc nL own g ω0 sz0) (hN : NCs s) {E : String} {tab : List ExceptionTableEntry} (htab : c.exceptionTable.toList = tab) (pre : List ExceptionTableEntry) (x : ExceptionTableEntry) (suf : List ExceptionTableEntry) (hsplit : tab = pre ++ x :: suf)
    (hpass : ∀ z ∈ pre, z.catchType ≠ 0 ∧ ∃ n9, Cond.classLink own z.catchType n9 ∈ lw_tbl ∧ n9 ∈ exNs ∧ E ∈ exNs ∧ E ≠ n9) (hx : covers x pc = true) (h0 : x.catchType ≠ 0) (hlk : Cond.classLink own x.catchType E ∈ lw_tbl) (hct : Cond.castable E E ∈ lw_tbl) (hp : x.handlerPc = pc')
    (kk : ∀ q, WP p l e R s m args below meth c g ω0 sz0 Q nL ω k n pc' L [.ref q]) : WX p l e R s m args below meth c g ω0 sz0 Q nL ω k n pc L rest E := fun H locs ls q ce hw hk hS hl hce hcv hcl => by
  subst hp
  exact vx_catch hC.2.2.2.1 pre x suf (htab.trans hsplit) (fun z hz => Or.inr (by
    obtain ⟨a0, n9, a1, a2, a3, a4⟩ := hpass z hz
    exact ⟨a0, n9, hC.w a1 rfl, hN _ a3 _ a2 a4⟩)) hx h0 (hC.w hlk rfl) (hC.n hct rfl) hce hcv hcl (kk q H locs ls hw hk hS hl)
theorem s_callSX (hC : Cx p l e R s m args below meth c cc nL own g ω0 sz0) (hN : NCs s) {y : MethodName} {bytes : ByteArray} {maxL index nA fr1 lo1 mc1 ms1 : Nat} {ret : Option FieldType} {hh : List (Nat × Nat × Nat × Nat)} {As : List Value} {post1 : Option Value → Wd → Prop} (ct : CTH l g y bytes maxL ret hh fr1 lo1 mc1 ms1 As ω post1) (ce : CeX y bytes maxL ret hh nA) (hlink : Cond.methodLink own index y ∈ lw_tbl) {st : List Value} (hst : st = As.reverse ++ rest) (hnA : As.length = nA) (hR : (fr1 + 1 ≤ R.frames ∧ 8 + (maxL + 11) + lo1 ≤ R.locals) ∧ k + mc1 ≤ R.cells ∧ n + ms1 ≤ R.slots) (hrest : (rest.map fun v => v.category).sum ≤ 8) (hdg : decode cc pc = .ok (.invokestatic index, 3)) (hp : pc + 3 = pc')
    (kk : ∀ r ω', post1 r ω' → WP p l e R s m args below meth c g ω0 sz0 Q nL ω' (k + mc1) (n + ms1) pc' L (r.toList ++ rest)) : WP p l e R s m args below meth c g ω0 sz0 Q nL ω k n pc L st := fun H locs ls hw hk hS hl =>
  wp_go hC hw hk hS hl (vx_runSX (As := As) (rest := rest) ⟨hC.1, hC.2.1, hC.2.2.1, hC.2.2.2.1, hC.2.2.2.2.1⟩ (ct H.size) (vx_cwSW nA hC.2.2.2.2.1 (fun w hw9 => by
      simp only [va_wsS, List.cons_append, List.nil_append, List.mem_cons] at hw9
      rcases hw9 with rfl | rfl | rfl | hw9
      · first | exact ⟨W0_in hlink rfl, Or.inl rfl⟩ | exact ⟨W0_in ce.2.1 rfl, Or.inl rfl⟩ | exact ⟨W0_in ce.2.2.1 rfl, Or.inl rfl⟩
      · first | exact ⟨W0_in hlink rfl, Or.inl rfl⟩ | exact ⟨W0_in ce.2.1 rfl, Or.inl rfl⟩ | exact ⟨W0_in ce.2.2.1 rfl, Or.inl rfl⟩
      · first | exact ⟨W0_in hlink rfl, Or.inl rfl⟩ | exact ⟨W0_in ce.2.1 rfl, Or.inl rfl⟩ | exact ⟨W0_in ce.2.2.1 rfl, Or.inl rfl⟩
      · exact goodX ce.1 w (List.mem_cons.mpr hw9)) rfl rfl rfl ce.2.2.2 hR.1) ⟨Pch_blind _ _, fun U hU hW => ⟨Pcs_pre hC hw hS As U hU hW, NCs.warm hW hN⟩⟩ rfl hnA hl.1 hst (lv_room hrest) hdg hR.2) hp kk (fun E ω' h9 => h9.elim)
end CTHS
