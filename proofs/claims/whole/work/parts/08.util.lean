theorem le_b {a b : Nat} (h : Nat.ble a b = true) : a ≤ b := Nat.le_of_ble_eq_true h
/-- a known answer and a known world -/
def dv (v : Option Value) (ω1 : Wd) : Option Value → Wd → Prop := fun r ω' => r = v ∧ ω' = ω1
theorem w_ne {ω : Wd} {a q : Nat} {e : va_E} (h : ω a = some e) (hq : ω q = none) : a ≠ q := fun z => by rw [z, hq] at h; cases h
theorem wup_wup (ω : Wd) (a : Nat) (e f : va_E) : wup (wup ω a e) a f = wup ω a f := by
  funext q
  by_cases h : q = a
  · rw [h, wup_s, wup_s]
  · rw [wup_n h, wup_n h, wup_n h]
theorem wup_self {ω : Wd} {a : Nat} {e : va_E} (h : ω a = some e) : wup ω a e = ω := by
  funext q
  by_cases hq : q = a
  · rw [hq, wup_s, h]
  · rw [wup_n hq]
def inR (x lo hi : Int32) : Bool := decide (lo ≤ x) && decide (x ≤ hi)
theorem z_cmp_lt {x y : Int64} : lg_cmp x y < 0 ↔ x < y := by
  unfold lg_cmp
  split
  · rename_i h
    exact ⟨fun z => absurd z (by decide), fun z => absurd (Int64.lt_trans z h) (Int64.lt_irrefl)⟩
  · split
    · rename_i h1 h
      subst h
      exact ⟨fun z => absurd z (by decide), fun z => absurd z (Int64.lt_irrefl)⟩
    · rename_i h1 h
      exact ⟨fun _ => Int64.lt_of_le_of_ne (Int64.not_lt.mp h1) h, fun _ => by decide⟩
theorem z_cmp_gt {x y : Int64} : 0 < lg_cmp x y ↔ y < x := by
  unfold lg_cmp
  split
  · rename_i h
    exact ⟨fun _ => h, fun _ => by decide⟩
  · rename_i h
    split
    · exact ⟨fun z => absurd z (by decide), fun z => absurd z h⟩
    · exact ⟨fun z => absurd z (by decide), fun z => absurd z h⟩
section UTIL
variable {p : Program} {l : Launch} {e : Env} {R : Room} {s : State} {m : MethodId} {args : Array Value} {below : List Frame} {meth : Method} {c : Code} {cc : ByteArray} {nL : Nat} {own : String} {g : Gl} {ω0 : Wd} {sz0 : Nat} {Q : State → Prop} {ω ω1 : Wd} {k n pc pc' : Nat} {L : List (Nat × Value)} {rest : List Value}
theorem dvk1 {v : Value} (kk : WP p l e R s m args below meth c g ω0 sz0 Q nL ω1 k n pc L (v :: rest)) : ∀ r ω', dv (some v) ω1 r ω' → WP p l e R s m args below meth c g ω0 sz0 Q nL ω' k n pc L (r.toList ++ rest) := by
  rintro r ω' ⟨rfl, rfl⟩
  exact kk
theorem dvk0 (kk : WP p l e R s m args below meth c g ω0 sz0 Q nL ω1 k n pc L rest) : ∀ r ω', dv none ω1 r ω' → WP p l e R s m args below meth c g ω0 sz0 Q nL ω' k n pc L (r.toList ++ rest) := by
  rintro r ω' ⟨rfl, rfl⟩
  exact kk
theorem nokx {st : List Value} : ∀ E ω', nox E ω' → WX p l e R s m args below meth c g ω0 sz0 Q nL ω' k n pc L st E := fun _ _ h => h.elim
/-- an exception of the callee that goes on to the caller -/
theorem outk {post : Option Value → Wd → Prop} {xp xp1 : String → Wd → Prop} {mc ms : Nat} {st : List Value} (hC : Cx p l e R s m args below meth c cc nL own g ω0 sz0) (htab : ∀ x ∈ c.exceptionTable.toList, False) (hk1 : k ≤ mc) (hn1 : n ≤ ms) (h : ∀ E ω', xp1 E ω' → xp E ω') : ∀ E ω', xp1 E ω' → WX p l e R s m args below meth c g ω0 sz0 (Qm below args s g ω0 sz0 post xp mc ms) nL ω' k n pc L st E := fun E ω' hx => s_out hC htab hk1 hn1 (h E ω' hx)
theorem z_lif_eq (hC : Cx p l e R s m args below meth c cc nL own g ω0 sz0) {x y : Int64} {off : Int} {tgt : Nat} (hdg : decode cc pc = .ok (.ifCond .eq off, 3)) (hp : pc + 3 = pc') (ht : (pc : Int) + off = (tgt : Int)) (kt : x = y → WP p l e R s m args below meth c g ω0 sz0 Q nL ω k n tgt L rest) (kf : ¬ x = y → WP p l e R s m args below meth c g ω0 sz0 Q nL ω k n pc' L rest) : WP p l e R s m args below meth c g ω0 sz0 Q nL ω k n pc L (.int (lg_cmp x y) :: rest) :=
  z_if_eq hC hdg hp ht (fun h => kt (by unfold lg_cmp at h; split at h <;> first | exact absurd h (by decide) | (split at h <;> first | assumption | exact absurd h (by decide)))) (fun h => kf (fun e9 => h (by subst e9; simp [lg_cmp])))
theorem z_lif_ne (hC : Cx p l e R s m args below meth c cc nL own g ω0 sz0) {x y : Int64} {off : Int} {tgt : Nat} (hdg : decode cc pc = .ok (.ifCond .ne off, 3)) (hp : pc + 3 = pc') (ht : (pc : Int) + off = (tgt : Int)) (kt : ¬ x = y → WP p l e R s m args below meth c g ω0 sz0 Q nL ω k n tgt L rest) (kf : x = y → WP p l e R s m args below meth c g ω0 sz0 Q nL ω k n pc' L rest) : WP p l e R s m args below meth c g ω0 sz0 Q nL ω k n pc L (.int (lg_cmp x y) :: rest) :=
  z_if_ne hC hdg hp ht (fun h => kt (fun e9 => h (by subst e9; simp [lg_cmp]))) (fun h => kf (by unfold lg_cmp at h; split at h <;> first | exact absurd h (by decide) | (split at h <;> first | assumption | exact absurd h (by decide))))
theorem z_lif_lt (hC : Cx p l e R s m args below meth c cc nL own g ω0 sz0) {x y : Int64} {off : Int} {tgt : Nat} (hdg : decode cc pc = .ok (.ifCond .lt off, 3)) (hp : pc + 3 = pc') (ht : (pc : Int) + off = (tgt : Int)) (kt : ¬ y ≤ x → WP p l e R s m args below meth c g ω0 sz0 Q nL ω k n tgt L rest) (kf : y ≤ x → WP p l e R s m args below meth c g ω0 sz0 Q nL ω k n pc' L rest) : WP p l e R s m args below meth c g ω0 sz0 Q nL ω k n pc L (.int (lg_cmp x y) :: rest) :=
  z_if_lt hC hdg hp ht (fun h => kt (Int64.not_le.mpr (z_cmp_lt.mp (Int32.not_le.mp h)))) (fun h => kf (Int64.not_lt.mp (fun h2 => absurd (z_cmp_lt.mpr h2) (Int32.not_lt.mpr h))))
theorem z_lif_ge (hC : Cx p l e R s m args below meth c cc nL own g ω0 sz0) {x y : Int64} {off : Int} {tgt : Nat} (hdg : decode cc pc = .ok (.ifCond .ge off, 3)) (hp : pc + 3 = pc') (ht : (pc : Int) + off = (tgt : Int)) (kt : y ≤ x → WP p l e R s m args below meth c g ω0 sz0 Q nL ω k n tgt L rest) (kf : ¬ y ≤ x → WP p l e R s m args below meth c g ω0 sz0 Q nL ω k n pc' L rest) : WP p l e R s m args below meth c g ω0 sz0 Q nL ω k n pc L (.int (lg_cmp x y) :: rest) :=
  z_if_ge hC hdg hp ht (fun h => kt (Int64.not_lt.mp (fun h2 => absurd (z_cmp_lt.mpr h2) (Int32.not_lt.mpr h)))) (fun h => kf (Int64.not_le.mpr (z_cmp_lt.mp (Int32.not_le.mp h))))
theorem z_lif_gt (hC : Cx p l e R s m args below meth c cc nL own g ω0 sz0) {x y : Int64} {off : Int} {tgt : Nat} (hdg : decode cc pc = .ok (.ifCond .gt off, 3)) (hp : pc + 3 = pc') (ht : (pc : Int) + off = (tgt : Int)) (kt : ¬ x ≤ y → WP p l e R s m args below meth c g ω0 sz0 Q nL ω k n tgt L rest) (kf : x ≤ y → WP p l e R s m args below meth c g ω0 sz0 Q nL ω k n pc' L rest) : WP p l e R s m args below meth c g ω0 sz0 Q nL ω k n pc L (.int (lg_cmp x y) :: rest) :=
  z_if_gt hC hdg hp ht (fun h => kt (Int64.not_le.mpr (z_cmp_gt.mp (Int32.not_le.mp h)))) (fun h => kf (Int64.not_lt.mp (fun h2 => absurd (z_cmp_gt.mpr h2) (Int32.not_lt.mpr h))))
theorem z_lif_le (hC : Cx p l e R s m args below meth c cc nL own g ω0 sz0) {x y : Int64} {off : Int} {tgt : Nat} (hdg : decode cc pc = .ok (.ifCond .le off, 3)) (hp : pc + 3 = pc') (ht : (pc : Int) + off = (tgt : Int)) (kt : x ≤ y → WP p l e R s m args below meth c g ω0 sz0 Q nL ω k n tgt L rest) (kf : ¬ x ≤ y → WP p l e R s m args below meth c g ω0 sz0 Q nL ω k n pc' L rest) : WP p l e R s m args below meth c g ω0 sz0 Q nL ω k n pc L (.int (lg_cmp x y) :: rest) :=
  z_if_le hC hdg hp ht (fun h => kt (Int64.not_lt.mp (fun h2 => absurd (z_cmp_gt.mpr h2) (Int32.not_lt.mpr h)))) (fun h => kf (Int64.not_le.mpr (z_cmp_gt.mp (Int32.not_le.mp h))))
end UTIL
theorem cs_J0 : CS 0 RJ0 TJ0 4 tyJ0 := ⟨rfl, by decide +kernel, tyJ0_ok, nmJ0⟩
theorem cs_J4 : CS 1 RJ4 TJ4 4 tyJ4 := ⟨rfl, by decide +kernel, tyJ4_ok, nmJ4⟩
theorem cs_Jx00060 : CS 2 RJx00060 TJx00060 6 tyJx00060 := ⟨rfl, by decide +kernel, tyJx00060_ok, nmJx00060⟩
theorem cs_Jx35411 : CS 3 RJx35411 TJx35411 4 tyJx35411 := ⟨rfl, by decide +kernel, tyJx35411_ok, nmJx35411⟩
theorem cs_Jx4a65c : CS 4 RJx4a65c TJx4a65c 3 tyJx4a65c := ⟨rfl, by decide +kernel, tyJx4a65c_ok, nmJx4a65c⟩
theorem cs_X0 : CS 5 RX0 TX0 2 tyX0 := ⟨rfl, by decide +kernel, tyX0_ok, nmX0⟩
theorem cs_X1 : CS 6 RX1 TX1 4 tyX1 := ⟨rfl, by decide +kernel, tyX1_ok, nmX1⟩
theorem cs_X2 : CS 7 RX2 TX2 2 tyX2 := ⟨rfl, by decide +kernel, tyX2_ok, nmX2⟩
theorem cs_X3 : CS 8 RX3 TX3 4 tyX3 := ⟨rfl, by decide +kernel, tyX3_ok, nmX3⟩
theorem cs_X4 : CS 9 RX4 TX4 7 tyX4 := ⟨rfl, by decide +kernel, tyX4_ok, nmX4⟩
theorem cs_X5 : CS 10 RX5 TX5 14 tyX5 := ⟨rfl, by decide +kernel, tyX5_ok, nmX5⟩
theorem cs_X6 : CS 11 RX6 TX6 5 tyX6 := ⟨rfl, by decide +kernel, tyX6_ok, nmX6⟩
theorem cs_X7 : CS 12 RX7 TX7 7 tyX7 := ⟨rfl, by decide +kernel, tyX7_ok, nmX7⟩
theorem cs_X8 : CS 13 RX8 TX8 3 tyX8 := ⟨rfl, by decide +kernel, tyX8_ok, nmX8⟩
theorem cs_X9 : CS 14 RX9 TX9 9 tyX9 := ⟨rfl, by decide +kernel, tyX9_ok, nmX9⟩
theorem cs_X10 : CS 15 RX10 TX10 9 tyX10 := ⟨rfl, by decide +kernel, tyX10_ok, nmX10⟩
theorem cs_X11 : CS 16 RX11 TX11 22 tyX11 := ⟨rfl, by decide +kernel, tyX11_ok, nmX11⟩
theorem ce_X0_init : CeI yX0_init cX0_init 3 2 := ⟨tw_608, ⟨tw_607, rfl⟩, tw_24, ⟨by decide +kernel, by decide +kernel, by decide +kernel⟩⟩
theorem ce_X1_init : CeI yX1_init cX1_init 1 0 := ⟨tw_189, ⟨tw_188, rfl⟩, tw_9, ⟨by decide +kernel, by decide +kernel, by decide +kernel⟩⟩
theorem ce_X1_isLorryTime : CeV yX1_isLorryTime cX1_isLorryTime 2 (some .boolean) 0 := ⟨tw_1146, ⟨tw_1144, tw_1145⟩, tw_9, ⟨by decide +kernel, by decide +kernel, by decide +kernel⟩⟩
theorem ce_X1_forAllElse : CeV yX1_forAllElse cX1_forAllElse 1 (some .int) 0 := ⟨tw_422, ⟨tw_420, tw_421⟩, tw_9, ⟨by decide +kernel, by decide +kernel, by decide +kernel⟩⟩
theorem ce_X2_init : CeI yX2_init cX2_init 1 0 := ⟨tw_212, ⟨tw_211, rfl⟩, tw_10, ⟨by decide +kernel, by decide +kernel, by decide +kernel⟩⟩
theorem ce_X2_addWait : CeV yX2_addWait cX2_addWait 6 none 3 := ⟨tw_1160, ⟨tw_1158, tw_1159⟩, tw_10, ⟨by decide +kernel, by decide +kernel, by decide +kernel⟩⟩
theorem ce_X2_putFirst : CeV yX2_putFirst cX2_putFirst 4 none 1 := ⟨tw_1178, ⟨tw_1176, tw_1177⟩, tw_10, ⟨by decide +kernel, by decide +kernel, by decide +kernel⟩⟩
theorem ce_X2_allWaits : CeV yX2_allWaits cX2_allWaits 3 (some .int) 0 := ⟨tw_418, ⟨tw_416, tw_417⟩, tw_10, ⟨by decide +kernel, by decide +kernel, by decide +kernel⟩⟩
theorem ce_X2_ownerOf : CeS yX2_ownerOf cX2_ownerOf 1 (some .int) 1 := ⟨tw_1164, tw_1163, tw_10, ⟨by decide +kernel, by decide +kernel, by decide +kernel⟩⟩
theorem ce_X3_init : CeI yX3_init cX3_init 1 0 := ⟨tw_147, ⟨tw_146, rfl⟩, tw_7, ⟨by decide +kernel, by decide +kernel, by decide +kernel⟩⟩
theorem ce_X3_startAtLine : CeV yX3_startAtLine cX3_startAtLine 1 none 0 := ⟨tw_360, ⟨tw_358, tw_359⟩, tw_7, ⟨by decide +kernel, by decide +kernel, by decide +kernel⟩⟩
theorem ce_X3_startAt : CeV yX3_startAt cX3_startAt 2 none 1 := ⟨tw_987, ⟨tw_985, tw_986⟩, tw_7, ⟨by decide +kernel, by decide +kernel, by decide +kernel⟩⟩
theorem ce_X3_go : CeV yX3_go cX3_go 3 none 2 := ⟨tw_373, ⟨tw_371, tw_372⟩, tw_7, ⟨by decide +kernel, by decide +kernel, by decide +kernel⟩⟩
theorem ce_X3_square : CeV yX3_square cX3_square 1 (some .long) 0 := ⟨tw_995, ⟨tw_993, tw_994⟩, tw_7, ⟨by decide +kernel, by decide +kernel, by decide +kernel⟩⟩
theorem ce_X3_isLike : CeV yX3_isLike cX3_isLike 2 (some .boolean) 1 := ⟨tw_377, ⟨tw_375, tw_376⟩, tw_7, ⟨by decide +kernel, by decide +kernel, by decide +kernel⟩⟩
theorem ce_X4_init : CeI yX4_init cX4_init 4 3 := ⟨tw_1035, ⟨tw_1034, rfl⟩, tw_34, ⟨by decide +kernel, by decide +kernel, by decide +kernel⟩⟩
theorem ce_X4_awayFrom : CeV yX4_awayFrom cX4_awayFrom 2 (some .int) 1 := ⟨tw_856, ⟨tw_854, tw_855⟩, tw_34, ⟨by decide +kernel, by decide +kernel, by decide +kernel⟩⟩
theorem ce_X4_colour : CeV yX4_colour cX4_colour 1 (some .char) 0 := ⟨tw_861, ⟨tw_859, tw_860⟩, tw_34, ⟨by decide +kernel, by decide +kernel, by decide +kernel⟩⟩
theorem ce_X5_init : CeI yX5_init cX5_init 4 3 := ⟨tw_883, ⟨tw_882, rfl⟩, tw_32, ⟨by decide +kernel, by decide +kernel, by decide +kernel⟩⟩
theorem ce_X5_isOff : CeV yX5_isOff cX5_isOff 1 (some .boolean) 0 := ⟨tw_303, ⟨tw_301, tw_302⟩, tw_32, ⟨by decide +kernel, by decide +kernel, by decide +kernel⟩⟩
theorem ce_X5_isEvent : CeV yX5_isEvent cX5_isEvent 1 (some .boolean) 0 := ⟨tw_322, ⟨tw_320, tw_321⟩, tw_32, ⟨by decide +kernel, by decide +kernel, by decide +kernel⟩⟩
theorem ce_X5_gap : CeV yX5_gap cX5_gap 1 (some .int) 0 := ⟨tw_340, ⟨tw_338, tw_339⟩, tw_32, ⟨by decide +kernel, by decide +kernel, by decide +kernel⟩⟩
theorem ce_X5_room : CeV yX5_room cX5_room 1 (some .int) 0 := ⟨tw_406, ⟨tw_404, tw_405⟩, tw_32, ⟨by decide +kernel, by decide +kernel, by decide +kernel⟩⟩
theorem ce_X5_missing : CeV yX5_missing cX5_missing 1 (some .int) 0 := ⟨tw_336, ⟨tw_334, tw_335⟩, tw_32, ⟨by decide +kernel, by decide +kernel, by decide +kernel⟩⟩
theorem ce_X5_hasSet : CeV yX5_hasSet cX5_hasSet 2 (some .boolean) 1 := ⟨tw_1014, ⟨tw_1012, tw_1013⟩, tw_32, ⟨by decide +kernel, by decide +kernel, by decide +kernel⟩⟩
theorem ce_X6_init : CeI yX6_init cX6_init 1 0 := ⟨tw_117, ⟨tw_116, rfl⟩, tw_6, ⟨by decide +kernel, by decide +kernel, by decide +kernel⟩⟩
theorem ce_X6_isWornOut : CeV yX6_isWornOut cX6_isWornOut 2 (some .boolean) 0 := ⟨tw_839, ⟨tw_837, tw_838⟩, tw_6, ⟨by decide +kernel, by decide +kernel, by decide +kernel⟩⟩
theorem ce_X6_wear : CeV yX6_wear cX6_wear 5 none 1 := ⟨tw_945, ⟨tw_943, tw_944⟩, tw_6, ⟨by decide +kernel, by decide +kernel, by decide +kernel⟩⟩
theorem ce_X7_init : CeI yX7_init cX7_init 2 0 := ⟨tw_52, ⟨tw_51, rfl⟩, tw_2, ⟨by decide +kernel, by decide +kernel, by decide +kernel⟩⟩
theorem ce_X7_bound : CeV yX7_bound cX7_bound 3 (some .int) 2 := ⟨tw_742, ⟨tw_740, tw_741⟩, tw_2, ⟨by decide +kernel, by decide +kernel, by decide +kernel⟩⟩
theorem ce_X7_weight : CeV yX7_weight cX7_weight 7 (some .int) 2 := ⟨tw_705, ⟨tw_703, tw_704⟩, tw_2, ⟨by decide +kernel, by decide +kernel, by decide +kernel⟩⟩
theorem ce_X7_weightOfAll : CeV yX7_weightOfAll cX7_weightOfAll 4 (some .int) 1 := ⟨tw_720, ⟨tw_718, tw_719⟩, tw_2, ⟨by decide +kernel, by decide +kernel, by decide +kernel⟩⟩
theorem ce_X7_likeliest : CeV yX7_likeliest cX7_likeliest 6 (some .int) 1 := ⟨tw_700, ⟨tw_698, tw_699⟩, tw_2, ⟨by decide +kernel, by decide +kernel, by decide +kernel⟩⟩
theorem ce_X7_eventMinutes : CeV yX7_eventMinutes cX7_eventMinutes 2 (some .int) 1 := ⟨tw_394, ⟨tw_392, tw_393⟩, tw_2, ⟨by decide +kernel, by decide +kernel, by decide +kernel⟩⟩
theorem ce_X8_init : CeI yX8_init cX8_init 1 0 := ⟨tw_170, ⟨tw_169, rfl⟩, tw_8, ⟨by decide +kernel, by decide +kernel, by decide +kernel⟩⟩
theorem ce_X9_init : CeI yX9_init cX9_init 1 0 := ⟨tw_44, ⟨tw_43, rfl⟩, tw_1, ⟨by decide +kernel, by decide +kernel, by decide +kernel⟩⟩
theorem ce_X9_ground : CeV yX9_ground cX9_ground 4 (some .int) 3 := ⟨tw_431, ⟨tw_429, tw_430⟩, tw_1, ⟨by decide +kernel, by decide +kernel, by decide +kernel⟩⟩
theorem ce_X9_reference : CeV yX9_reference cX9_reference 4 (some .int) 3 := ⟨tw_551, ⟨tw_549, tw_550⟩, tw_1, ⟨by decide +kernel, by decide +kernel, by decide +kernel⟩⟩
theorem ce_X9_depth : CeV yX9_depth cX9_depth 4 (some .int) 3 := ⟨tw_558, ⟨tw_556, tw_557⟩, tw_1, ⟨by decide +kernel, by decide +kernel, by decide +kernel⟩⟩
theorem ce_X9_water : CeV yX9_water cX9_water 4 (some .int) 3 := ⟨tw_570, ⟨tw_568, tw_569⟩, tw_1, ⟨by decide +kernel, by decide +kernel, by decide +kernel⟩⟩
theorem ce_X9_bend : CeV yX9_bend cX9_bend 5 (some .int) 4 := ⟨tw_577, ⟨tw_575, tw_576⟩, tw_1, ⟨by decide +kernel, by decide +kernel, by decide +kernel⟩⟩
theorem ce_X9_bore : CeV yX9_bore cX9_bore 5 (some .int) 2 := ⟨tw_586, ⟨tw_584, tw_585⟩, tw_1, ⟨by decide +kernel, by decide +kernel, by decide +kernel⟩⟩
theorem ce_X9_guess : CeV yX9_guess cX9_guess 3 (some .char) 1 := ⟨tw_692, ⟨tw_690, tw_691⟩, tw_1, ⟨by decide +kernel, by decide +kernel, by decide +kernel⟩⟩
theorem ce_X9_doubt : CeV yX9_doubt cX9_doubt 3 (some .int) 1 := ⟨tw_716, ⟨tw_714, tw_715⟩, tw_1, ⟨by decide +kernel, by decide +kernel, by decide +kernel⟩⟩
theorem ce_X9_pressure : CeV yX9_pressure cX9_pressure 3 (some .int) 1 := ⟨tw_728, ⟨tw_726, tw_727⟩, tw_1, ⟨by decide +kernel, by decide +kernel, by decide +kernel⟩⟩
theorem ce_X9_lower : CeV yX9_lower cX9_lower 2 (some .int) 1 := ⟨tw_736, ⟨tw_734, tw_735⟩, tw_1, ⟨by decide +kernel, by decide +kernel, by decide +kernel⟩⟩
theorem ce_X9_upper : CeV yX9_upper cX9_upper 2 (some .int) 1 := ⟨tw_749, ⟨tw_747, tw_748⟩, tw_1, ⟨by decide +kernel, by decide +kernel, by decide +kernel⟩⟩
theorem ce_X9_foam : CeV yX9_foam cX9_foam 3 (some .boolean) 1 := ⟨tw_268, ⟨tw_266, tw_267⟩, tw_1, ⟨by decide +kernel, by decide +kernel, by decide +kernel⟩⟩
theorem ce_X9_worn : CeV yX9_worn cX9_worn 2 (some .int) 1 := ⟨tw_782, ⟨tw_780, tw_781⟩, tw_1, ⟨by decide +kernel, by decide +kernel, by decide +kernel⟩⟩
theorem ce_X9_change : CeV yX9_change cX9_change 3 (some .int) 1 := ⟨tw_802, ⟨tw_800, tw_801⟩, tw_1, ⟨by decide +kernel, by decide +kernel, by decide +kernel⟩⟩
theorem ce_X9_steer : CeV yX9_steer cX9_steer 4 (some .int) 2 := ⟨tw_822, ⟨tw_820, tw_821⟩, tw_1, ⟨by decide +kernel, by decide +kernel, by decide +kernel⟩⟩
theorem ce_X9_bars : CeV yX9_bars cX9_bars 2 (some .char) 1 := ⟨tw_830, ⟨tw_828, tw_829⟩, tw_1, ⟨by decide +kernel, by decide +kernel, by decide +kernel⟩⟩
theorem ce_X9_advance : CeV yX9_advance cX9_advance 3 (some .int) 1 := ⟨tw_868, ⟨tw_866, tw_867⟩, tw_1, ⟨by decide +kernel, by decide +kernel, by decide +kernel⟩⟩
theorem ce_X9_rings : CeV yX9_rings cX9_rings 1 (some .int) 0 := ⟨tw_272, ⟨tw_270, tw_271⟩, tw_1, ⟨by decide +kernel, by decide +kernel, by decide +kernel⟩⟩
theorem ce_X9_off : CeV yX9_off cX9_off 4 (some .int) 2 := ⟨tw_955, ⟨tw_953, tw_954⟩, tw_1, ⟨by decide +kernel, by decide +kernel, by decide +kernel⟩⟩
theorem ce_X9_heading : CeV yX9_heading cX9_heading 2 (some .int) 1 := ⟨tw_280, ⟨tw_278, tw_279⟩, tw_1, ⟨by decide +kernel, by decide +kernel, by decide +kernel⟩⟩
theorem ce_X9_rotation : CeV yX9_rotation cX9_rotation 2 (some .int) 1 := ⟨tw_967, ⟨tw_965, tw_966⟩, tw_1, ⟨by decide +kernel, by decide +kernel, by decide +kernel⟩⟩
theorem ce_X9_plan : CeV yX9_plan cX9_plan 2 (some .int) 1 := ⟨tw_974, ⟨tw_972, tw_973⟩, tw_1, ⟨by decide +kernel, by decide +kernel, by decide +kernel⟩⟩
theorem ce_X9_squares : CeV yX9_squares cX9_squares 2 (some .long) 1 := ⟨tw_1002, ⟨tw_1000, tw_1001⟩, tw_1, ⟨by decide +kernel, by decide +kernel, by decide +kernel⟩⟩
theorem ce_X9_offRings : CeV yX9_offRings cX9_offRings 3 (some .int) 0 := ⟨tw_284, ⟨tw_282, tw_283⟩, tw_1, ⟨by decide +kernel, by decide +kernel, by decide +kernel⟩⟩
theorem ce_X9_grout : CeV yX9_grout cX9_grout 4 (some .int) 2 := ⟨tw_1009, ⟨tw_1007, tw_1008⟩, tw_1, ⟨by decide +kernel, by decide +kernel, by decide +kernel⟩⟩
theorem ce_X9_lost : CeV yX9_lost cX9_lost 2 (some .int) 1 := ⟨tw_1022, ⟨tw_1020, tw_1021⟩, tw_1, ⟨by decide +kernel, by decide +kernel, by decide +kernel⟩⟩
theorem ce_X9_house : CeV yX9_house cX9_house 5 (some .int) 3 := ⟨tw_1029, ⟨tw_1027, tw_1028⟩, tw_1, ⟨by decide +kernel, by decide +kernel, by decide +kernel⟩⟩
theorem ce_X9_settles : CeV yX9_settles cX9_settles 3 (some .int) 2 := ⟨tw_1072, ⟨tw_1070, tw_1071⟩, tw_1, ⟨by decide +kernel, by decide +kernel, by decide +kernel⟩⟩
theorem ce_X9_tilt : CeV yX9_tilt cX9_tilt 2 (some .int) 1 := ⟨tw_1092, ⟨tw_1090, tw_1091⟩, tw_1, ⟨by decide +kernel, by decide +kernel, by decide +kernel⟩⟩
theorem ce_X9_damage : CeV yX9_damage cX9_damage 3 (some .int) 1 := ⟨tw_1104, ⟨tw_1102, tw_1103⟩, tw_1, ⟨by decide +kernel, by decide +kernel, by decide +kernel⟩⟩
theorem ce_X9_read : CeV yX9_read cX9_read 3 (some .int) 1 := ⟨tw_1111, ⟨tw_1109, tw_1110⟩, tw_1, ⟨by decide +kernel, by decide +kernel, by decide +kernel⟩⟩
theorem ce_X9_alarm : CeV yX9_alarm cX9_alarm 2 (some .char) 1 := ⟨tw_1118, ⟨tw_1116, tw_1117⟩, tw_1, ⟨by decide +kernel, by decide +kernel, by decide +kernel⟩⟩
theorem ce_X9_lift : CeV yX9_lift cX9_lift 5 (some .int) 3 := ⟨tw_1125, ⟨tw_1123, tw_1124⟩, tw_1, ⟨by decide +kernel, by decide +kernel, by decide +kernel⟩⟩
theorem ce_X9_deliver : CeV yX9_deliver cX9_deliver 2 (some .int) 1 := ⟨tw_1132, ⟨tw_1130, tw_1131⟩, tw_1, ⟨by decide +kernel, by decide +kernel, by decide +kernel⟩⟩
theorem ce_X9_muck : CeV yX9_muck cX9_muck 1 (some .int) 0 := ⟨tw_310, ⟨tw_308, tw_309⟩, tw_1, ⟨by decide +kernel, by decide +kernel, by decide +kernel⟩⟩
theorem ce_X9_lorries : CeV yX9_lorries cX9_lorries 5 (some .int) 1 := ⟨tw_1141, ⟨tw_1139, tw_1140⟩, tw_1, ⟨by decide +kernel, by decide +kernel, by decide +kernel⟩⟩
theorem ce_X9_now : CeV yX9_now cX9_now 1 (some .int) 0 := ⟨tw_314, ⟨tw_312, tw_313⟩, tw_1, ⟨by decide +kernel, by decide +kernel, by decide +kernel⟩⟩
theorem ce_X9_pause : CeV yX9_pause cX9_pause 5 (some .int) 3 := ⟨tw_1154, ⟨tw_1152, tw_1153⟩, tw_1, ⟨by decide +kernel, by decide +kernel, by decide +kernel⟩⟩
theorem ce_X9_first : CeV yX9_first cX9_first 3 (some .int) 1 := ⟨tw_1173, ⟨tw_1171, tw_1172⟩, tw_1, ⟨by decide +kernel, by decide +kernel, by decide +kernel⟩⟩
theorem ce_X9_waited : CeV yX9_waited cX9_waited 3 (some .int) 1 := ⟨tw_1185, ⟨tw_1183, tw_1184⟩, tw_1, ⟨by decide +kernel, by decide +kernel, by decide +kernel⟩⟩
theorem ce_X9_events : CeV yX9_events cX9_events 3 (some .int) 0 := ⟨tw_318, ⟨tw_316, tw_317⟩, tw_1, ⟨by decide +kernel, by decide +kernel, by decide +kernel⟩⟩
theorem ce_X9_notice : CeV yX9_notice cX9_notice 3 (some .boolean) 1 := ⟨tw_1194, ⟨tw_1192, tw_1193⟩, tw_1, ⟨by decide +kernel, by decide +kernel, by decide +kernel⟩⟩
theorem ce_X9_claimed : CeV yX9_claimed cX9_claimed 4 (some .int) 0 := ⟨tw_326, ⟨tw_324, tw_325⟩, tw_1, ⟨by decide +kernel, by decide +kernel, by decide +kernel⟩⟩
theorem ce_X9_count : CeV yX9_count cX9_count 5 (some .int) 1 := ⟨tw_1202, ⟨tw_1200, tw_1201⟩, tw_1, ⟨by decide +kernel, by decide +kernel, by decide +kernel⟩⟩
theorem ce_X9_groutShare : CeV yX9_groutShare cX9_groutShare 4 (some .float) 0 := ⟨tw_1224, ⟨tw_1222, tw_1223⟩, tw_1, ⟨by decide +kernel, by decide +kernel, by decide +kernel⟩⟩
theorem ce_X9_meanMinutes : CeV yX9_meanMinutes cX9_meanMinutes 1 (some .double) 0 := ⟨tw_1235, ⟨tw_1233, tw_1234⟩, tw_1, ⟨by decide +kernel, by decide +kernel, by decide +kernel⟩⟩
theorem ce_X9_checksum : CeV yX9_checksum cX9_checksum 5 (some .long) 0 := ⟨tw_330, ⟨tw_328, tw_329⟩, tw_1, ⟨by decide +kernel, by decide +kernel, by decide +kernel⟩⟩
theorem ce_X9_isSound : CeV yX9_isSound cX9_isSound 1 (some .boolean) 0 := ⟨tw_352, ⟨tw_350, tw_351⟩, tw_1, ⟨by decide +kernel, by decide +kernel, by decide +kernel⟩⟩
theorem ce_X9_isWithin : CeS yX9_isWithin cX9_isWithin 3 (some .boolean) 3 := ⟨tw_449, tw_448, tw_1, ⟨by decide +kernel, by decide +kernel, by decide +kernel⟩⟩
theorem ce_X9_isPlace : CeS yX9_isPlace cX9_isPlace 1 (some .boolean) 1 := ⟨tw_446, tw_445, tw_1, ⟨by decide +kernel, by decide +kernel, by decide +kernel⟩⟩
theorem ce_X9_isStretch : CeS yX9_isStretch cX9_isStretch 2 (some .boolean) 2 := ⟨tw_443, tw_442, tw_1, ⟨by decide +kernel, by decide +kernel, by decide +kernel⟩⟩
theorem ce_X9_refuseBuilt : CeV yX9_refuseBuilt cX9_refuseBuilt 2 none 1 := ⟨tw_524, ⟨tw_523, tp_9⟩, tw_1, ⟨by decide +kernel, by decide +kernel, by decide +kernel⟩⟩
theorem ce_X9_refuseLate : CeV yX9_refuseLate cX9_refuseLate 2 none 1 := ⟨tw_810, ⟨tw_809, tp_14⟩, tw_1, ⟨by decide +kernel, by decide +kernel, by decide +kernel⟩⟩
theorem ce_X9_ringAt : CeV yX9_ringAt cX9_ringAt 2 (some (.object "Boringhead$Ring")) 1 := ⟨tw_959, ⟨tw_958, tp_20⟩, tw_1, ⟨by decide +kernel, by decide +kernel, by decide +kernel⟩⟩
theorem ce_X9_houseAt : CeV yX9_houseAt cX9_houseAt 2 (some (.object "Boringhead$House")) 1 := ⟨tw_1076, ⟨tw_1075, tp_23⟩, tw_1, ⟨by decide +kernel, by decide +kernel, by decide +kernel⟩⟩
theorem ce_X9_tellKind : CeV yX9_tellKind cX9_tellKind 6 (some .int) 4 := ⟨tw_435, ⟨tw_434, tp_7⟩, tw_1, ⟨by decide +kernel, by decide +kernel, by decide +kernel⟩⟩
theorem ce_X9_tellNumber : CeV yX9_tellNumber cX9_tellNumber 8 (some .int) 6 := ⟨tw_562, ⟨tw_561, tp_10⟩, tw_1, ⟨by decide +kernel, by decide +kernel, by decide +kernel⟩⟩
theorem ce_X9_at : CeS yX9_at cX9_at 2 (some .int) 2 := ⟨tw_345, tw_344, tw_1, ⟨by decide +kernel, by decide +kernel, by decide +kernel⟩⟩
theorem ce_X9_put : CeS yX9_put cX9_put 3 none 3 := ⟨tw_815, tw_814, tw_1, ⟨by decide +kernel, by decide +kernel, by decide +kernel⟩⟩
theorem ce_X9_fill : CeS yX9_fill cX9_fill 6 (some .int) 4 := ⟨tw_543, tw_542, tw_1, ⟨by decide +kernel, by decide +kernel, by decide +kernel⟩⟩
theorem ce_X9_letterAt : CeS yX9_letterAt cX9_letterAt 2 (some .char) 2 := ⟨tw_696, tw_695, tw_1, ⟨by decide +kernel, by decide +kernel, by decide +kernel⟩⟩
theorem ce_X9_indexIn : CeS yX9_indexIn cX9_indexIn 3 (some .int) 2 := ⟨tw_440, tw_439, tw_1, ⟨by decide +kernel, by decide +kernel, by decide +kernel⟩⟩
theorem ce_X9_barOf : CeV yX9_barOf cX9_barOf 3 (some .char) 1 := ⟨tw_835, ⟨tw_834, tp_15⟩, tw_1, ⟨by decide +kernel, by decide +kernel, by decide +kernel⟩⟩
theorem ce_X9_lastTurn : CeV yX9_lastTurn cX9_lastTurn 1 (some .int) 0 := ⟨tw_843, ⟨tw_842, tp_16⟩, tw_1, ⟨by decide +kernel, by decide +kernel, by decide +kernel⟩⟩
theorem ce_X9_isRedNear : CeV yX9_isRedNear cX9_isRedNear 4 (some .boolean) 1 := ⟨tw_851, ⟨tw_850, tp_17⟩, tw_1, ⟨by decide +kernel, by decide +kernel, by decide +kernel⟩⟩
theorem ce_X9_muckOf : CeS yX9_muckOf cX9_muckOf 3 (some .int) 2 := ⟨tw_384, tw_383, tw_1, ⟨by decide +kernel, by decide +kernel, by decide +kernel⟩⟩
theorem ce_X9_nextMinutes : CeV yX9_nextMinutes cX9_nextMinutes 2 (some .int) 0 := ⟨tw_873, ⟨tw_872, tp_18⟩, tw_1, ⟨by decide +kernel, by decide +kernel, by decide +kernel⟩⟩
theorem ce_X9_changeMinutes : CeS yX9_changeMinutes cX9_changeMinutes 1 (some .int) 1 := ⟨tw_806, tw_805, tw_1, ⟨by decide +kernel, by decide +kernel, by decide +kernel⟩⟩
theorem ce_X9_build : CeV yX9_build cX9_build 6 none 2 := ⟨tw_879, ⟨tw_878, tp_19⟩, tw_1, ⟨by decide +kernel, by decide +kernel, by decide +kernel⟩⟩
theorem ce_X9_go : CeV yX9_go cX9_go 8 none 5 := ⟨tw_364, ⟨tw_363, tp_1⟩, tw_1, ⟨by decide +kernel, by decide +kernel, by decide +kernel⟩⟩
theorem ce_X9_bestRow : CeV yX9_bestRow cX9_bestRow 8 (some .int) 1 := ⟨tw_979, ⟨tw_978, tp_21⟩, tw_1, ⟨by decide +kernel, by decide +kernel, by decide +kernel⟩⟩
theorem ce_X9_sumOfRow : CeV yX9_sumOfRow cX9_sumOfRow 8 (some .long) 2 := ⟨tw_983, ⟨tw_982, tp_22⟩, tw_1, ⟨by decide +kernel, by decide +kernel, by decide +kernel⟩⟩
theorem ce_X9_turnOf : CeS yX9_turnOf cX9_turnOf 3 (some .int) 3 := ⟨tw_990, tw_989, tw_1, ⟨by decide +kernel, by decide +kernel, by decide +kernel⟩⟩
theorem ce_X9_tiltOf : CeV yX9_tiltOf cX9_tiltOf 2 (some .int) 1 := ⟨tw_1096, ⟨tw_1095, tp_26⟩, tw_1, ⟨by decide +kernel, by decide +kernel, by decide +kernel⟩⟩
theorem ce_X9_settlement : CeV yX9_settlement cX9_settlement 6 (some .int) 2 := ⟨tw_1081, ⟨tw_1080, tp_24⟩, tw_1, ⟨by decide +kernel, by decide +kernel, by decide +kernel⟩⟩
theorem ce_X9_sunkBy : CeV yX9_sunkBy cX9_sunkBy 8 (some .int) 4 := ⟨tw_1085, ⟨tw_1084, tp_25⟩, tw_1, ⟨by decide +kernel, by decide +kernel, by decide +kernel⟩⟩
theorem ce_X9_isCourseSound : CeV yX9_isCourseSound cX9_isCourseSound 3 (some .boolean) 0 := ⟨tw_356, ⟨tw_355, tp_0⟩, tw_1, ⟨by decide +kernel, by decide +kernel, by decide +kernel⟩⟩
theorem ce_X9_isMuckSound : CeV yX9_isMuckSound cX9_isMuckSound 4 (some .boolean) 0 := ⟨tw_381, ⟨tw_380, tp_2⟩, tw_1, ⟨by decide +kernel, by decide +kernel, by decide +kernel⟩⟩
theorem ce_X9_areEventsSound : CeV yX9_areEventsSound cX9_areEventsSound 2 (some .boolean) 0 := ⟨tw_390, ⟨tw_389, tp_3⟩, tw_1, ⟨by decide +kernel, by decide +kernel, by decide +kernel⟩⟩
theorem ce_X9_areRingsSound : CeV yX9_areRingsSound cX9_areRingsSound 4 (some .boolean) 0 := ⟨tw_402, ⟨tw_401, tp_4⟩, tw_1, ⟨by decide +kernel, by decide +kernel, by decide +kernel⟩⟩
theorem ce_X9_isClockSound : CeV yX9_isClockSound cX9_isClockSound 1 (some .boolean) 0 := ⟨tw_410, ⟨tw_409, tp_5⟩, tw_1, ⟨by decide +kernel, by decide +kernel, by decide +kernel⟩⟩
theorem ce_X9_minutesOfRings : CeV yX9_minutesOfRings cX9_minutesOfRings 3 (some .int) 0 := ⟨tw_414, ⟨tw_413, tp_6⟩, tw_1, ⟨by decide +kernel, by decide +kernel, by decide +kernel⟩⟩
theorem ce_X10_init : CeI yX10_init cX10_init 1 0 := ⟨tw_1636, ⟨tw_1635, rfl⟩, tw_33, ⟨by decide +kernel, by decide +kernel, by decide +kernel⟩⟩
theorem ce_X11_thrown : CeV yX11_thrown cX11_thrown 1 (some .int) 0 := ⟨tw_1239, ⟨tw_1237, tw_1238⟩, tw_11, ⟨by decide +kernel, by decide +kernel, by decide +kernel⟩⟩
theorem ce_X11_in : CeS yX11_in cX11_in 6 (some .boolean) 3 := ⟨tw_1421, tw_1420, tw_11, ⟨by decide +kernel, by decide +kernel, by decide +kernel⟩⟩
theorem ce_X11_isOf : CeS yX11_isOf cX11_isOf 2 (some .boolean) 2 := ⟨tw_1681, tw_1680, tw_11, ⟨by decide +kernel, by decide +kernel, by decide +kernel⟩⟩
theorem ce_X11_fails : CeV yX11_fails cX11_fails 3 (some .boolean) 2 := ⟨tw_1425, ⟨tw_1424, tp_30⟩, tw_11, ⟨by decide +kernel, by decide +kernel, by decide +kernel⟩⟩
theorem ce_X11_begins : CeV yX11_begins cX11_begins 1 none 0 := ⟨tw_1327, ⟨tw_1326, tp_28⟩, tw_11, ⟨by decide +kernel, by decide +kernel, by decide +kernel⟩⟩
theorem ce_X11_init : CeI yX11_init cX11_init 2 0 := ⟨tw_1244, ⟨tw_1243, rfl⟩, tw_11, ⟨by decide +kernel, by decide +kernel, by decide +kernel⟩⟩
theorem ce_X11_isPlace : CeS yX11_isPlace cX11_isPlace 1 (some .boolean) 1 := ⟨tw_1417, tw_1416, tw_11, ⟨by decide +kernel, by decide +kernel, by decide +kernel⟩⟩
theorem ce_X11_noStretch : CeV yX11_noStretch cX11_noStretch 4 (some .boolean) 3 := ⟨tw_1414, ⟨tw_1413, tp_29⟩, tw_11, ⟨by decide +kernel, by decide +kernel, by decide +kernel⟩⟩
theorem ce_X11_tell : CeV yX11_tell cX11_tell 8 (some .int) 4 := ⟨tw_1323, ⟨tw_1322, tp_27⟩, tw_11, ⟨by decide +kernel, by decide +kernel, by decide +kernel⟩⟩
theorem ce_X11_ground : CeV yX11_ground cX11_ground 4 (some .int) 3 := ⟨tw_1319, ⟨tw_1317, tw_1318⟩, tw_11, ⟨by decide +kernel, by decide +kernel, by decide +kernel⟩⟩
theorem ce_X11_reference : CeV yX11_reference cX11_reference 4 (some .int) 3 := ⟨tw_1437, ⟨tw_1435, tw_1436⟩, tw_11, ⟨by decide +kernel, by decide +kernel, by decide +kernel⟩⟩
theorem ce_X11_lay : CeV yX11_lay cX11_lay 9 (some .int) 6 := ⟨tw_1445, ⟨tw_1444, tp_31⟩, tw_11, ⟨by decide +kernel, by decide +kernel, by decide +kernel⟩⟩
theorem ce_X11_depth : CeV yX11_depth cX11_depth 4 (some .int) 3 := ⟨tw_1441, ⟨tw_1439, tw_1440⟩, tw_11, ⟨by decide +kernel, by decide +kernel, by decide +kernel⟩⟩
theorem ce_X11_water : CeV yX11_water cX11_water 4 (some .int) 3 := ⟨tw_1449, ⟨tw_1447, tw_1448⟩, tw_11, ⟨by decide +kernel, by decide +kernel, by decide +kernel⟩⟩
theorem ce_X11_bend : CeV yX11_bend cX11_bend 6 (some .int) 4 := ⟨tw_1453, ⟨tw_1451, tw_1452⟩, tw_11, ⟨by decide +kernel, by decide +kernel, by decide +kernel⟩⟩
theorem ce_X11_bore : CeV yX11_bore cX11_bore 3 (some .int) 2 := ⟨tw_1459, ⟨tw_1457, tw_1458⟩, tw_11, ⟨by decide +kernel, by decide +kernel, by decide +kernel⟩⟩
theorem ce_X11_weights : CeV yX11_weights cX11_weights 5 (some (.array .int)) 1 := ⟨tw_1492, ⟨tw_1491, tp_32⟩, tw_11, ⟨by decide +kernel, by decide +kernel, by decide +kernel⟩⟩
theorem ce_X11_best : CeS yX11_best cX11_best 3 (some .int) 1 := ⟨tw_1549, tw_1548, tw_11, ⟨by decide +kernel, by decide +kernel, by decide +kernel⟩⟩
theorem ce_X11_guess : CeV yX11_guess cX11_guess 3 (some .char) 1 := ⟨tw_1470, ⟨tw_1468, tw_1469⟩, tw_11, ⟨by decide +kernel, by decide +kernel, by decide +kernel⟩⟩
theorem ce_X11_doubt : CeV yX11_doubt cX11_doubt 4 (some .int) 1 := ⟨tw_1553, ⟨tw_1551, tw_1552⟩, tw_11, ⟨by decide +kernel, by decide +kernel, by decide +kernel⟩⟩
theorem ce_X11_pressure : CeV yX11_pressure cX11_pressure 3 (some .int) 1 := ⟨tw_1557, ⟨tw_1555, tw_1556⟩, tw_11, ⟨by decide +kernel, by decide +kernel, by decide +kernel⟩⟩
theorem ce_X11_bound : CeV yX11_bound cX11_bound 3 (some .int) 2 := ⟨tw_1568, ⟨tw_1567, tp_33⟩, tw_11, ⟨by decide +kernel, by decide +kernel, by decide +kernel⟩⟩
theorem ce_X11_lower : CeV yX11_lower cX11_lower 2 (some .int) 1 := ⟨tw_1562, ⟨tw_1560, tw_1561⟩, tw_11, ⟨by decide +kernel, by decide +kernel, by decide +kernel⟩⟩
theorem ce_X11_upper : CeV yX11_upper cX11_upper 2 (some .int) 1 := ⟨tw_1572, ⟨tw_1570, tw_1571⟩, tw_11, ⟨by decide +kernel, by decide +kernel, by decide +kernel⟩⟩
theorem ce_X11_foam : CeV yX11_foam cX11_foam 3 (some .boolean) 1 := ⟨tw_1578, ⟨tw_1576, tw_1577⟩, tw_11, ⟨by decide +kernel, by decide +kernel, by decide +kernel⟩⟩
theorem ce_X11_worn : CeV yX11_worn cX11_worn 2 (some .int) 1 := ⟨tw_1582, ⟨tw_1580, tw_1581⟩, tw_11, ⟨by decide +kernel, by decide +kernel, by decide +kernel⟩⟩
theorem ce_X11_change : CeV yX11_change cX11_change 4 (some .int) 1 := ⟨tw_1587, ⟨tw_1585, tw_1586⟩, tw_11, ⟨by decide +kernel, by decide +kernel, by decide +kernel⟩⟩
theorem ce_X11_steer : CeV yX11_steer cX11_steer 4 (some .int) 2 := ⟨tw_1592, ⟨tw_1590, tw_1591⟩, tw_11, ⟨by decide +kernel, by decide +kernel, by decide +kernel⟩⟩
theorem ce_X11_muckOf : CeV yX11_muckOf cX11_muckOf 2 (some .int) 1 := ⟨tw_1617, ⟨tw_1616, tp_35⟩, tw_11, ⟨by decide +kernel, by decide +kernel, by decide +kernel⟩⟩
theorem ce_X11_away : CeS yX11_away cX11_away 2 (some .int) 2 := ⟨tw_1605, tw_1604, tw_11, ⟨by decide +kernel, by decide +kernel, by decide +kernel⟩⟩
theorem ce_X11_barsNow : CeV yX11_barsNow cX11_barsNow 8 (some .char) 1 := ⟨tw_1602, ⟨tw_1601, tp_34⟩, tw_11, ⟨by decide +kernel, by decide +kernel, by decide +kernel⟩⟩
theorem ce_X11_bars : CeV yX11_bars cX11_bars 2 (some .char) 1 := ⟨tw_1598, ⟨tw_1596, tw_1597⟩, tw_11, ⟨by decide +kernel, by decide +kernel, by decide +kernel⟩⟩
theorem ce_X11_advance : CeV yX11_advance cX11_advance 7 (some .int) 1 := ⟨tw_1623, ⟨tw_1621, tw_1622⟩, tw_11, ⟨by decide +kernel, by decide +kernel, by decide +kernel⟩⟩
theorem ce_X11_rings : CeV yX11_rings cX11_rings 1 (some .int) 0 := ⟨tw_1670, ⟨tw_1668, tw_1669⟩, tw_11, ⟨by decide +kernel, by decide +kernel, by decide +kernel⟩⟩
theorem ce_X11_noRing : CeV yX11_noRing cX11_noRing 2 (some .boolean) 1 := ⟨tw_1678, ⟨tw_1677, tp_36⟩, tw_11, ⟨by decide +kernel, by decide +kernel, by decide +kernel⟩⟩
theorem ce_X11_off : CeV yX11_off cX11_off 3 (some .int) 2 := ⟨tw_1674, ⟨tw_1672, tw_1673⟩, tw_11, ⟨by decide +kernel, by decide +kernel, by decide +kernel⟩⟩
theorem ce_X11_heading : CeV yX11_heading cX11_heading 2 (some .int) 1 := ⟨tw_1685, ⟨tw_1683, tw_1684⟩, tw_11, ⟨by decide +kernel, by decide +kernel, by decide +kernel⟩⟩
theorem ce_X11_rotation : CeV yX11_rotation cX11_rotation 2 (some .int) 1 := ⟨tw_1689, ⟨tw_1687, tw_1688⟩, tw_11, ⟨by decide +kernel, by decide +kernel, by decide +kernel⟩⟩
theorem ce_X11_least : CeV yX11_least cX11_least 16 (some .long) 5 := ⟨tw_1702, ⟨tw_1701, tp_38⟩, tw_11, ⟨by decide +kernel, by decide +kernel, by decide +kernel⟩⟩
theorem ce_X11_planned : CeV yX11_planned cX11_planned 6 (some .long) 2 := ⟨tw_1698, ⟨tw_1697, tp_37⟩, tw_11, ⟨by decide +kernel, by decide +kernel, by decide +kernel⟩⟩
theorem ce_X11_plan : CeV yX11_plan cX11_plan 3 (some .int) 1 := ⟨tw_1693, ⟨tw_1691, tw_1692⟩, tw_11, ⟨by decide +kernel, by decide +kernel, by decide +kernel⟩⟩
theorem ce_X11_squares : CeV yX11_squares cX11_squares 2 (some .long) 1 := ⟨tw_1708, ⟨tw_1706, tw_1707⟩, tw_11, ⟨by decide +kernel, by decide +kernel, by decide +kernel⟩⟩
theorem ce_X11_offRings : CeV yX11_offRings cX11_offRings 4 (some .int) 0 := ⟨tw_1712, ⟨tw_1710, tw_1711⟩, tw_11, ⟨by decide +kernel, by decide +kernel, by decide +kernel⟩⟩
theorem ce_X11_gap : CeV yX11_gap cX11_gap 2 (some .int) 1 := ⟨tw_1721, ⟨tw_1720, tp_39⟩, tw_11, ⟨by decide +kernel, by decide +kernel, by decide +kernel⟩⟩
theorem ce_X11_lostAt : CeV yX11_lostAt cX11_lostAt 2 (some .int) 1 := ⟨tw_1727, ⟨tw_1726, tp_40⟩, tw_11, ⟨by decide +kernel, by decide +kernel, by decide +kernel⟩⟩
theorem ce_X11_grout : CeV yX11_grout cX11_grout 5 (some .int) 2 := ⟨tw_1716, ⟨tw_1714, tw_1715⟩, tw_11, ⟨by decide +kernel, by decide +kernel, by decide +kernel⟩⟩
theorem ce_X11_lost : CeV yX11_lost cX11_lost 2 (some .int) 1 := ⟨tw_1731, ⟨tw_1729, tw_1730⟩, tw_11, ⟨by decide +kernel, by decide +kernel, by decide +kernel⟩⟩
theorem ce_X11_house : CeV yX11_house cX11_house 4 (some .int) 3 := ⟨tw_1735, ⟨tw_1733, tw_1734⟩, tw_11, ⟨by decide +kernel, by decide +kernel, by decide +kernel⟩⟩
theorem ce_X11_settled : CeV yX11_settled cX11_settled 9 (some .int) 2 := ⟨tw_1748, ⟨tw_1747, tp_42⟩, tw_11, ⟨by decide +kernel, by decide +kernel, by decide +kernel⟩⟩
theorem ce_X11_noHouse : CeV yX11_noHouse cX11_noHouse 2 (some .boolean) 1 := ⟨tw_1744, ⟨tw_1743, tp_41⟩, tw_11, ⟨by decide +kernel, by decide +kernel, by decide +kernel⟩⟩
theorem ce_X11_settles : CeV yX11_settles cX11_settles 3 (some .int) 2 := ⟨tw_1740, ⟨tw_1738, tw_1739⟩, tw_11, ⟨by decide +kernel, by decide +kernel, by decide +kernel⟩⟩
theorem ce_X11_tilted : CeV yX11_tilted cX11_tilted 2 (some .int) 1 := ⟨tw_1756, ⟨tw_1755, tp_43⟩, tw_11, ⟨by decide +kernel, by decide +kernel, by decide +kernel⟩⟩
theorem ce_X11_tilt : CeV yX11_tilt cX11_tilt 2 (some .int) 1 := ⟨tw_1752, ⟨tw_1750, tw_1751⟩, tw_11, ⟨by decide +kernel, by decide +kernel, by decide +kernel⟩⟩
theorem ce_X11_damage : CeV yX11_damage cX11_damage 3 (some .int) 1 := ⟨tw_1760, ⟨tw_1758, tw_1759⟩, tw_11, ⟨by decide +kernel, by decide +kernel, by decide +kernel⟩⟩
theorem ce_X11_read : CeV yX11_read cX11_read 2 (some .int) 1 := ⟨tw_1764, ⟨tw_1762, tw_1763⟩, tw_11, ⟨by decide +kernel, by decide +kernel, by decide +kernel⟩⟩
theorem ce_X11_alarm : CeV yX11_alarm cX11_alarm 3 (some .char) 1 := ⟨tw_1768, ⟨tw_1766, tw_1767⟩, tw_11, ⟨by decide +kernel, by decide +kernel, by decide +kernel⟩⟩
theorem ce_X11_lift : CeV yX11_lift cX11_lift 4 (some .int) 3 := ⟨tw_1772, ⟨tw_1770, tw_1771⟩, tw_11, ⟨by decide +kernel, by decide +kernel, by decide +kernel⟩⟩
theorem ce_X11_deliver : CeV yX11_deliver cX11_deliver 2 (some .int) 1 := ⟨tw_1777, ⟨tw_1775, tw_1776⟩, tw_11, ⟨by decide +kernel, by decide +kernel, by decide +kernel⟩⟩
theorem ce_X11_muck : CeV yX11_muck cX11_muck 1 (some .int) 0 := ⟨tw_1782, ⟨tw_1780, tw_1781⟩, tw_11, ⟨by decide +kernel, by decide +kernel, by decide +kernel⟩⟩
theorem ce_X11_lorries : CeV yX11_lorries cX11_lorries 5 (some .int) 1 := ⟨tw_1786, ⟨tw_1784, tw_1785⟩, tw_11, ⟨by decide +kernel, by decide +kernel, by decide +kernel⟩⟩
theorem ce_X11_now : CeV yX11_now cX11_now 1 (some .int) 0 := ⟨tw_1793, ⟨tw_1791, tw_1792⟩, tw_11, ⟨by decide +kernel, by decide +kernel, by decide +kernel⟩⟩
theorem ce_X11_whose : CeS yX11_whose cX11_whose 1 (some .int) 1 := ⟨tw_1801, tw_1800, tw_11, ⟨by decide +kernel, by decide +kernel, by decide +kernel⟩⟩
theorem ce_X11_pause : CeV yX11_pause cX11_pause 6 (some .int) 3 := ⟨tw_1797, ⟨tw_1795, tw_1796⟩, tw_11, ⟨by decide +kernel, by decide +kernel, by decide +kernel⟩⟩
theorem ce_X11_first : CeV yX11_first cX11_first 3 (some .int) 1 := ⟨tw_1805, ⟨tw_1803, tw_1804⟩, tw_11, ⟨by decide +kernel, by decide +kernel, by decide +kernel⟩⟩
theorem ce_X11_waited : CeV yX11_waited cX11_waited 3 (some .int) 1 := ⟨tw_2039, ⟨tw_2037, tw_2038⟩, tw_11, ⟨by decide +kernel, by decide +kernel, by decide +kernel⟩⟩
theorem ce_X11_event : CeV yX11_event cX11_event 2 (some .int) 1 := ⟨tw_2048, ⟨tw_2047, tp_44⟩, tw_11, ⟨by decide +kernel, by decide +kernel, by decide +kernel⟩⟩
theorem ce_X11_events : CeV yX11_events cX11_events 3 (some .int) 0 := ⟨tw_2044, ⟨tw_2042, tw_2043⟩, tw_11, ⟨by decide +kernel, by decide +kernel, by decide +kernel⟩⟩
theorem ce_X11_notice : CeV yX11_notice cX11_notice 3 (some .boolean) 1 := ⟨tw_2052, ⟨tw_2050, tw_2051⟩, tw_11, ⟨by decide +kernel, by decide +kernel, by decide +kernel⟩⟩
theorem ce_X11_claimed : CeV yX11_claimed cX11_claimed 3 (some .int) 0 := ⟨tw_2056, ⟨tw_2054, tw_2055⟩, tw_11, ⟨by decide +kernel, by decide +kernel, by decide +kernel⟩⟩
theorem ce_X11_count : CeV yX11_count cX11_count 4 (some .int) 1 := ⟨tw_2060, ⟨tw_2058, tw_2059⟩, tw_11, ⟨by decide +kernel, by decide +kernel, by decide +kernel⟩⟩
theorem ce_X11_groutShare : CeV yX11_groutShare cX11_groutShare 4 (some .float) 0 := ⟨tw_2064, ⟨tw_2062, tw_2063⟩, tw_11, ⟨by decide +kernel, by decide +kernel, by decide +kernel⟩⟩
theorem ce_X11_meanMinutes : CeV yX11_meanMinutes cX11_meanMinutes 4 (some .double) 0 := ⟨tw_2075, ⟨tw_2073, tw_2074⟩, tw_11, ⟨by decide +kernel, by decide +kernel, by decide +kernel⟩⟩
theorem ce_X11_checksum : CeV yX11_checksum cX11_checksum 4 (some .long) 0 := ⟨tw_2079, ⟨tw_2077, tw_2078⟩, tw_11, ⟨by decide +kernel, by decide +kernel, by decide +kernel⟩⟩
theorem ce_X11_isSound : CeV yX11_isSound cX11_isSound 1 (some .boolean) 0 := ⟨tw_2084, ⟨tw_2082, tw_2083⟩, tw_11, ⟨by decide +kernel, by decide +kernel, by decide +kernel⟩⟩
theorem ce_J5_init_d00df : CeI yJ5_init_d00df cJ5_init_d00df 2 1 := ⟨tw_1813, ⟨tw_1812, rfl⟩, tw_35, ⟨by decide +kernel, by decide +kernel, by decide +kernel⟩⟩
theorem ce_Jx00060_init_a7421 : CeI yJx00060_init_a7421 cJx00060_init_a7421 2 1 := ⟨tw_758, ⟨tw_757, rfl⟩, tw_31, ⟨by decide +kernel, by decide +kernel, by decide +kernel⟩⟩
theorem ce_J11_isValidCodePoint_9a6ad : CeS yJ11_isValidCodePoint_9a6ad cJ11_isValidCodePoint_9a6ad 2 (some .boolean) 1 := ⟨tw_1402, tw_1401, tw_22, ⟨by decide +kernel, by decide +kernel, by decide +kernel⟩⟩
theorem ce_J11_highSurrogate_5068e : CeS yJ11_highSurrogate_5068e cJ11_highSurrogate_5068e 1 (some .char) 1 := ⟨tw_1405, tw_1404, tw_22, ⟨by decide +kernel, by decide +kernel, by decide +kernel⟩⟩
theorem ce_J11_lowSurrogate_5068e : CeS yJ11_lowSurrogate_5068e cJ11_lowSurrogate_5068e 1 (some .char) 1 := ⟨tw_1409, tw_1408, tw_22, ⟨by decide +kernel, by decide +kernel, by decide +kernel⟩⟩
theorem ce_J6_getChars_ba4f3 : CeS yJ6_getChars_ba4f3 cJ6_getChars_ba4f3 7 (some .int) 3 := ⟨tw_1928, tw_1927, tw_38, ⟨by decide +kernel, by decide +kernel, by decide +kernel⟩⟩
theorem ce_J6_stringSize_0f7a4 : CeS yJ6_stringSize_0f7a4 cJ6_stringSize_0f7a4 4 (some .int) 1 := ⟨tw_1925, tw_1924, tw_38, ⟨by decide +kernel, by decide +kernel, by decide +kernel⟩⟩
theorem ce_J9_abs_0f7a4 : CeS yJ9_abs_0f7a4 cJ9_abs_0f7a4 1 (some .int) 1 := ⟨tw_306, tw_305, tw_17, ⟨by decide +kernel, by decide +kernel, by decide +kernel⟩⟩
theorem ce_J9_max_7cf53 : CeS yJ9_max_7cf53 cJ9_max_7cf53 2 (some .int) 2 := ⟨tw_348, tw_347, tw_17, ⟨by decide +kernel, by decide +kernel, by decide +kernel⟩⟩
theorem ce_J9_min_7cf53 : CeS yJ9_min_7cf53 cJ9_min_7cf53 2 (some .int) 2 := ⟨tw_680, tw_679, tw_17, ⟨by decide +kernel, by decide +kernel, by decide +kernel⟩⟩
theorem ce_J0_init_81219 : CeI yJ0_init_81219 cJ0_init_81219 2 1 := ⟨tw_1979, ⟨tw_1978, rfl⟩, tw_18, ⟨by decide +kernel, by decide +kernel, by decide +kernel⟩⟩
theorem ce_J0_length_8abf5 : CeV yJ0_length_8abf5 cJ0_length_8abf5 1 (some .int) 0 := ⟨tw_1346, ⟨tw_1344, tw_1345⟩, tw_18, ⟨by decide +kernel, by decide +kernel, by decide +kernel⟩⟩
theorem ce_J0_charAt_5068e : CeV yJ0_charAt_5068e cJ0_charAt_5068e 2 (some .char) 1 := ⟨tw_1474, ⟨tw_1472, tw_1473⟩, tw_18, ⟨by decide +kernel, by decide +kernel, by decide +kernel⟩⟩
theorem ce_J0_indexOf_0f7a4 : CeV yJ0_indexOf_0f7a4 cJ0_indexOf_0f7a4 2 (some .int) 1 := ⟨tw_1332, ⟨tw_1330, tw_1331⟩, tw_18, ⟨by decide +kernel, by decide +kernel, by decide +kernel⟩⟩
theorem ce_J0_indexOf_7cf53 : CeV yJ0_indexOf_7cf53 cJ0_indexOf_7cf53 3 (some .int) 2 := ⟨tw_1336, ⟨tw_1334, tw_1335⟩, tw_18, ⟨by decide +kernel, by decide +kernel, by decide +kernel⟩⟩
theorem ce_J0_substring_b52d3 : CeV yJ0_substring_b52d3 cJ0_substring_b52d3 2 (some (.object "java/lang/String")) 1 := ⟨tw_2033, ⟨tw_2031, tw_2032⟩, tw_18, ⟨by decide +kernel, by decide +kernel, by decide +kernel⟩⟩
theorem ce_J0_substring_37a41 : CeV yJ0_substring_37a41 cJ0_substring_37a41 5 (some (.object "java/lang/String")) 2 := ⟨tw_1897, ⟨tw_1895, tw_1896⟩, tw_18, ⟨by decide +kernel, by decide +kernel, by decide +kernel⟩⟩
theorem ce_J0_getBytes_840e7 : CeV yJ0_getBytes_840e7 cJ0_getBytes_840e7 4 none 3 := ⟨tw_1969, ⟨tw_1967, tw_1968⟩, tw_18, ⟨by decide +kernel, by decide +kernel, by decide +kernel⟩⟩
theorem ce_J0_init_db425 : CeI yJ0_init_db425 cJ0_init_db425 5 2 := ⟨tw_1982, ⟨tw_1981, rfl⟩, tw_18, ⟨by decide +kernel, by decide +kernel, by decide +kernel⟩⟩
theorem ce_J0_init_031fb : CeI yJ0_init_031fb cJ0_init_031fb 3 2 := ⟨tw_2019, ⟨tw_2018, rfl⟩, tw_18, ⟨by decide +kernel, by decide +kernel, by decide +kernel⟩⟩
theorem ce_J0_coder_7d493 : CeV yJ0_coder_7d493 cJ0_coder_7d493 1 (some .byte) 0 := ⟨tw_1350, ⟨tw_1348, tw_1349⟩, tw_18, ⟨by decide +kernel, by decide +kernel, by decide +kernel⟩⟩
theorem ce_J0_isLatin1_aae02 : CeV yJ0_isLatin1_aae02 cJ0_isLatin1_aae02 1 (some .boolean) 0 := ⟨tw_1340, ⟨tw_1338, tw_1339⟩, tw_18, ⟨by decide +kernel, by decide +kernel, by decide +kernel⟩⟩
theorem ce_J0_checkIndex_df160 : CeS yJ0_checkIndex_df160 cJ0_checkIndex_df160 2 none 2 := ⟨tw_1480, tw_1479, tw_18, ⟨by decide +kernel, by decide +kernel, by decide +kernel⟩⟩
theorem ce_J0_checkBoundsOffCount_cabcc : CeS yJ0_checkBoundsOffCount_cabcc cJ0_checkBoundsOffCount_cabcc 3 (some .int) 3 := ⟨tw_1884, tw_1883, tw_18, ⟨by decide +kernel, by decide +kernel, by decide +kernel⟩⟩
theorem ce_J0_checkBoundsBeginEnd_23922 : CeS yJ0_checkBoundsBeginEnd_23922 cJ0_checkBoundsBeginEnd_23922 3 none 3 := ⟨tw_1379, tw_1378, tw_18, ⟨by decide +kernel, by decide +kernel, by decide +kernel⟩⟩
theorem ce_J4_init_da8c8 : CeI yJ4_init_da8c8 cJ4_init_da8c8 1 0 := ⟨tw_1810, ⟨tw_1809, rfl⟩, tw_36, ⟨by decide +kernel, by decide +kernel, by decide +kernel⟩⟩
theorem ce_J4_append_15ec4 : CeV yJ4_append_15ec4 cJ4_append_15ec4 2 (some (.object "java/lang/StringBuilder")) 1 := ⟨tw_1945, ⟨tw_1943, tw_1944⟩, tw_36, ⟨by decide +kernel, by decide +kernel, by decide +kernel⟩⟩
theorem ce_J4_append_cf468 : CeV yJ4_append_cf468 cJ4_append_cf468 2 (some (.object "java/lang/StringBuilder")) 1 := ⟨tw_1839, ⟨tw_1837, tw_1838⟩, tw_36, ⟨by decide +kernel, by decide +kernel, by decide +kernel⟩⟩
theorem ce_J4_append_bf812 : CeV yJ4_append_bf812 cJ4_append_bf812 2 (some (.object "java/lang/StringBuilder")) 1 := ⟨tw_1919, ⟨tw_1917, tw_1918⟩, tw_36, ⟨by decide +kernel, by decide +kernel, by decide +kernel⟩⟩
theorem ce_J4_toString_0e30d : CeV yJ4_toString_0e30d cJ4_toString_0e30d 1 (some (.object "java/lang/String")) 0 := ⟨tw_1975, ⟨tw_1973, tw_1974⟩, tw_36, ⟨by decide +kernel, by decide +kernel, by decide +kernel⟩⟩
theorem ce_J1_charAt_3b067 : CeS yJ1_charAt_3b067 cJ1_charAt_3b067 2 (some .char) 2 := ⟨tw_1477, tw_1476, tw_19, ⟨by decide +kernel, by decide +kernel, by decide +kernel⟩⟩
theorem ce_J1_canEncode_fc78d : CeS yJ1_canEncode_fc78d cJ1_canEncode_fc78d 1 (some .boolean) 1 := ⟨tw_1868, tw_1867, tw_19, ⟨by decide +kernel, by decide +kernel, by decide +kernel⟩⟩
theorem ce_J1_canEncode_9a6ad : CeS yJ1_canEncode_9a6ad cJ1_canEncode_9a6ad 1 (some .boolean) 1 := ⟨tw_1356, tw_1355, tw_19, ⟨by decide +kernel, by decide +kernel, by decide +kernel⟩⟩
theorem ce_J1_indexOf_4cfef : CeS yJ1_indexOf_4cfef cJ1_indexOf_4cfef 4 (some .int) 4 := ⟨tw_1353, tw_1352, tw_19, ⟨by decide +kernel, by decide +kernel, by decide +kernel⟩⟩
theorem ce_J1_indexOfChar_4cfef : CeS yJ1_indexOfChar_4cfef cJ1_indexOfChar_4cfef 6 (some .int) 4 := ⟨tw_1361, tw_1360, tw_19, ⟨by decide +kernel, by decide +kernel, by decide +kernel⟩⟩
theorem ce_J1_newString_b4f7a : CeS yJ1_newString_b4f7a cJ1_newString_b4f7a 3 (some (.object "java/lang/String")) 3 := ⟨tw_1901, tw_1900, tw_19, ⟨by decide +kernel, by decide +kernel, by decide +kernel⟩⟩
theorem ce_J1_inflate_0e8fd : CeS yJ1_inflate_0e8fd cJ1_inflate_0e8fd 5 none 5 := ⟨tw_1875, tw_1874, tw_19, ⟨by decide +kernel, by decide +kernel, by decide +kernel⟩⟩
theorem ce_J2_newBytesFor_77867 : CeS yJ2_newBytesFor_77867 cJ2_newBytesFor_77867 1 (some (.array .byte)) 1 := ⟨tw_1818, tw_1817, tw_20, ⟨by decide +kernel, by decide +kernel, by decide +kernel⟩⟩
theorem ce_J2_newBytesLength_0f7a4 : CeS yJ2_newBytesLength_0f7a4 cJ2_newBytesLength_0f7a4 1 (some .int) 1 := ⟨tw_1821, tw_1820, tw_20, ⟨by decide +kernel, by decide +kernel, by decide +kernel⟩⟩
theorem ce_J2_putChar_b72d1 : CeS yJ2_putChar_b72d1 cJ2_putChar_b72d1 3 none 3 := ⟨tw_1890, tw_1889, tw_20, ⟨by decide +kernel, by decide +kernel, by decide +kernel⟩⟩
theorem ce_J2_getChar_3b067 : CeS yJ2_getChar_3b067 cJ2_getChar_3b067 2 (some .char) 2 := ⟨tw_1390, tw_1389, tw_20, ⟨by decide +kernel, by decide +kernel, by decide +kernel⟩⟩
theorem ce_J2_length_9d52b : CeS yJ2_length_9d52b cJ2_length_9d52b 1 (some .int) 1 := ⟨tw_1376, tw_1375, tw_20, ⟨by decide +kernel, by decide +kernel, by decide +kernel⟩⟩
theorem ce_J2_coderFromArrayLen_85cad : CeS yJ2_coderFromArrayLen_85cad cJ2_coderFromArrayLen_85cad 2 (some .byte) 2 := ⟨tw_2008, tw_2007, tw_20, ⟨by decide +kernel, by decide +kernel, by decide +kernel⟩⟩
theorem ce_J2_compress_39247 : CeS yJ2_compress_39247 cJ2_compress_39247 6 (some (.array .byte)) 3 := ⟨tw_2001, tw_2000, tw_20, ⟨by decide +kernel, by decide +kernel, by decide +kernel⟩⟩
theorem ce_J2_compress_5af95 : CeS yJ2_compress_5af95 cJ2_compress_5af95 7 (some .int) 5 := ⟨tw_2004, tw_2003, tw_20, ⟨by decide +kernel, by decide +kernel, by decide +kernel⟩⟩
theorem ce_J2_indexOf_4cfef : CeS yJ2_indexOf_4cfef cJ2_indexOf_4cfef 4 (some .int) 4 := ⟨tw_1364, tw_1363, tw_20, ⟨by decide +kernel, by decide +kernel, by decide +kernel⟩⟩
theorem ce_J2_indexOfChar_4cfef : CeS yJ2_indexOfChar_4cfef cJ2_indexOfChar_4cfef 4 (some .int) 4 := ⟨tw_1370, tw_1369, tw_20, ⟨by decide +kernel, by decide +kernel, by decide +kernel⟩⟩
theorem ce_J2_indexOfCharUnsafe_4cfef : CeS yJ2_indexOfCharUnsafe_4cfef cJ2_indexOfCharUnsafe_4cfef 5 (some .int) 4 := ⟨tw_1387, tw_1386, tw_20, ⟨by decide +kernel, by decide +kernel, by decide +kernel⟩⟩
theorem ce_J2_indexOfSupplementary_4cfef : CeS yJ2_indexOfSupplementary_4cfef cJ2_indexOfSupplementary_4cfef 7 (some .int) 4 := ⟨tw_1399, tw_1398, tw_20, ⟨by decide +kernel, by decide +kernel, by decide +kernel⟩⟩
theorem ce_J2_newString_b4f7a : CeS yJ2_newString_b4f7a cJ2_newString_b4f7a 5 (some (.object "java/lang/String")) 3 := ⟨tw_2022, tw_2021, tw_20, ⟨by decide +kernel, by decide +kernel, by decide +kernel⟩⟩
theorem ce_J2_putCharSB_b72d1 : CeS yJ2_putCharSB_b72d1 cJ2_putCharSB_b72d1 3 none 3 := ⟨tw_1893, tw_1892, tw_20, ⟨by decide +kernel, by decide +kernel, by decide +kernel⟩⟩
theorem ce_J2_getChars_46870 : CeS yJ2_getChars_46870 cJ2_getChars_46870 5 (some .int) 4 := ⟨tw_1935, tw_1934, tw_20, ⟨by decide +kernel, by decide +kernel, by decide +kernel⟩⟩
theorem ce_J2_putCharsAt_cd4e5 : CeS yJ2_putCharsAt_cd4e5 cJ2_putCharsAt_cd4e5 7 (some .int) 6 := ⟨tw_1955, tw_1954, tw_20, ⟨by decide +kernel, by decide +kernel, by decide +kernel⟩⟩
theorem ce_J2_charAt_3b067 : CeS yJ2_charAt_3b067 cJ2_charAt_3b067 2 (some .char) 2 := ⟨tw_1484, tw_1483, tw_20, ⟨by decide +kernel, by decide +kernel, by decide +kernel⟩⟩
theorem ce_J2_inflate_0e8fd : CeS yJ2_inflate_0e8fd cJ2_inflate_0e8fd 6 none 5 := ⟨tw_1878, tw_1877, tw_20, ⟨by decide +kernel, by decide +kernel, by decide +kernel⟩⟩
theorem ce_J2_getChars_ba4f3 : CeS yJ2_getChars_ba4f3 cJ2_getChars_ba4f3 7 (some .int) 3 := ⟨tw_1938, tw_1937, tw_20, ⟨by decide +kernel, by decide +kernel, by decide +kernel⟩⟩
theorem ce_J2_checkIndex_2214a : CeS yJ2_checkIndex_2214a cJ2_checkIndex_2214a 2 none 2 := ⟨tw_1487, tw_1486, tw_20, ⟨by decide +kernel, by decide +kernel, by decide +kernel⟩⟩
theorem ce_J2_checkBoundsBeginEnd_d044e : CeS yJ2_checkBoundsBeginEnd_d044e cJ2_checkBoundsBeginEnd_d044e 3 none 3 := ⟨tw_1373, tw_1372, tw_20, ⟨by decide +kernel, by decide +kernel, by decide +kernel⟩⟩
theorem ce_J2_checkBoundsOffCount_d044e : CeS yJ2_checkBoundsOffCount_d044e cJ2_checkBoundsOffCount_d044e 3 none 3 := ⟨tw_1881, tw_1880, tw_20, ⟨by decide +kernel, by decide +kernel, by decide +kernel⟩⟩
theorem ce_Jxa1e45_init_da8c8 : CeI yJxa1e45_init_da8c8 cJxa1e45_init_da8c8 1 0 := ⟨tw_64, ⟨tw_63, rfl⟩, tw_3, ⟨by decide +kernel, by decide +kernel, by decide +kernel⟩⟩
theorem ce_Jxc12de_init_da8c8 : CeI yJxc12de_init_da8c8 cJxc12de_init_da8c8 1 0 := ⟨tw_61, ⟨tw_60, rfl⟩, tw_4, ⟨by decide +kernel, by decide +kernel, by decide +kernel⟩⟩
theorem ce_Jx35411_init_45d68 : CeI yJx35411_init_45d68 cJx35411_init_45d68 2 1 := ⟨tw_1506, ⟨tw_1505, rfl⟩, tw_29, ⟨by decide +kernel, by decide +kernel, by decide +kernel⟩⟩
theorem ce_Jx35411_checkForComodification_da8c8 : CeV yJx35411_checkForComodification_da8c8 cJx35411_checkForComodification_da8c8 1 none 0 := ⟨tw_1543, ⟨tw_1541, tw_1542⟩, tw_29, ⟨by decide +kernel, by decide +kernel, by decide +kernel⟩⟩
theorem ce_Jx4a65c_init_da8c8 : CeI yJx4a65c_init_da8c8 cJx4a65c_init_da8c8 1 0 := ⟨tw_58, ⟨tw_57, rfl⟩, tw_5, ⟨by decide +kernel, by decide +kernel, by decide +kernel⟩⟩
theorem ce_Jx4a65c_grow_92f84 : CeV yJx4a65c_grow_92f84 cJx4a65c_grow_92f84 4 (some (.array (.object "java/lang/Object"))) 1 := ⟨tw_634, ⟨tw_633, tp_13⟩, tw_5, ⟨by decide +kernel, by decide +kernel, by decide +kernel⟩⟩
theorem ce_Jx4a65c_grow_d5877 : CeV yJx4a65c_grow_d5877 cJx4a65c_grow_d5877 1 (some (.array (.object "java/lang/Object"))) 0 := ⟨tw_630, ⟨tw_629, tp_12⟩, tw_5, ⟨by decide +kernel, by decide +kernel, by decide +kernel⟩⟩
theorem ce_Jx4a65c_size_8abf5 : CeV yJx4a65c_size_8abf5 cJx4a65c_size_8abf5 1 (some .int) 0 := ⟨tw_276, ⟨tw_274, tw_275⟩, tw_5, ⟨by decide +kernel, by decide +kernel, by decide +kernel⟩⟩
theorem ce_Jx4a65c_isEmpty_aae02 : CeV yJx4a65c_isEmpty_aae02 cJx4a65c_isEmpty_aae02 1 (some .boolean) 0 := ⟨tw_847, ⟨tw_845, tw_846⟩, tw_5, ⟨by decide +kernel, by decide +kernel, by decide +kernel⟩⟩
theorem ce_Jx4a65c_elementData_915e3 : CeV yJx4a65c_elementData_915e3 cJx4a65c_elementData_915e3 2 (some (.object "java/lang/Object")) 1 := ⟨tw_298, ⟨tw_296, tw_297⟩, tw_5, ⟨by decide +kernel, by decide +kernel, by decide +kernel⟩⟩
theorem ce_Jx4a65c_get_915e3 : CeV yJx4a65c_get_915e3 cJx4a65c_get_915e3 2 (some (.object "java/lang/Object")) 1 := ⟨tw_288, ⟨tw_286, tw_287⟩, tw_5, ⟨by decide +kernel, by decide +kernel, by decide +kernel⟩⟩
theorem ce_Jx4a65c_add_72be8 : CeV yJx4a65c_add_72be8 cJx4a65c_add_72be8 4 none 3 := ⟨tw_626, ⟨tw_625, tp_11⟩, tw_5, ⟨by decide +kernel, by decide +kernel, by decide +kernel⟩⟩
theorem ce_Jx4a65c_add_9ea2d : CeV yJx4a65c_add_9ea2d cJx4a65c_add_9ea2d 2 (some .boolean) 1 := ⟨tw_622, ⟨tw_620, tw_621⟩, tw_5, ⟨by decide +kernel, by decide +kernel, by decide +kernel⟩⟩
theorem ce_J7_copyOf_1904c : CeS yJ7_copyOf_1904c cJ7_copyOf_1904c 2 (some (.array (.object "java/lang/Object"))) 2 := ⟨tw_645, tw_644, tw_26, ⟨by decide +kernel, by decide +kernel, by decide +kernel⟩⟩
theorem ce_J7_copyOf_6403c : CeS yJ7_copyOf_6403c cJ7_copyOf_6403c 4 (some (.array (.object "java/lang/Object"))) 3 := ⟨tw_674, tw_673, tw_26, ⟨by decide +kernel, by decide +kernel, by decide +kernel⟩⟩
theorem ce_J7_copyOf_9075b : CeS yJ7_copyOf_9075b cJ7_copyOf_9075b 3 (some (.array .byte)) 2 := ⟨tw_1855, tw_1854, tw_26, ⟨by decide +kernel, by decide +kernel, by decide +kernel⟩⟩
theorem ce_J7_checkLength_df160 : CeS yJ7_checkLength_df160 cJ7_checkLength_df160 2 none 2 := ⟨tw_1912, tw_1911, tw_26, ⟨by decide +kernel, by decide +kernel, by decide +kernel⟩⟩
theorem ce_J7_copyOfRange_39247 : CeS yJ7_copyOfRange_39247 cJ7_copyOfRange_39247 3 (some (.array .byte)) 3 := ⟨tw_1906, tw_1905, tw_26, ⟨by decide +kernel, by decide +kernel, by decide +kernel⟩⟩
theorem ce_J7_copyOfRangeByte_39247 : CeS yJ7_copyOfRangeByte_39247 cJ7_copyOfRangeByte_39247 5 (some (.array .byte)) 3 := ⟨tw_1909, tw_1908, tw_26, ⟨by decide +kernel, by decide +kernel, by decide +kernel⟩⟩
theorem ce_J15_checkIndex_7cf53 : CeS yJ15_checkIndex_7cf53 cJ15_checkIndex_7cf53 2 (some .int) 2 := ⟨tw_291, tw_290, tw_28, ⟨by decide +kernel, by decide +kernel, by decide +kernel⟩⟩
theorem ce_J8_newLength_cabcc : CeS yJ8_newLength_cabcc cJ8_newLength_cabcc 4 (some .int) 3 := ⟨tw_637, tw_636, tw_25, ⟨by decide +kernel, by decide +kernel, by decide +kernel⟩⟩
theorem ce_J8_hugeLength_7cf53 : CeS yJ8_hugeLength_7cf53 cJ8_hugeLength_7cf53 3 (some .int) 2 := ⟨tw_642, tw_641, tw_25, ⟨by decide +kernel, by decide +kernel, by decide +kernel⟩⟩
theorem ce_J3_checkIndex_8e157 : CeS yJ3_checkIndex_8e157 cJ3_checkIndex_8e157 3 (some .int) 3 := ⟨tw_294, tw_293, tw_21, ⟨by decide +kernel, by decide +kernel, by decide +kernel⟩⟩
theorem ce_J3_checkFromToIndex_8c36e : CeS yJ3_checkFromToIndex_8c36e cJ3_checkFromToIndex_8c36e 4 (some .int) 4 := ⟨tw_1384, tw_1383, tw_21, ⟨by decide +kernel, by decide +kernel, by decide +kernel⟩⟩
theorem ce_J3_checkFromIndexSize_8c36e : CeS yJ3_checkFromIndexSize_8c36e cJ3_checkFromIndexSize_8c36e 4 (some .int) 4 := ⟨tw_1887, tw_1886, tw_21, ⟨by decide +kernel, by decide +kernel, by decide +kernel⟩⟩
theorem at_X9_97 : ∀ w ∈ vx_atS "Boringhead" 97 "java/lang/IllegalArgumentException" ["java/lang/RuntimeException", "java/lang/Exception"], w ∈ lw_tbl ∧ (goodWord w = true ∨ nwk w = true) := by decide +kernel
theorem at_X9_97_ot : ∀ w ∈ vx_atS "Boringhead" 97 "java/lang/IllegalArgumentException" ["java/lang/RuntimeException", "java/lang/Exception"], vx_ot w = true := by decide +kernel
theorem fit_IllegalArgumentException : Bundle.fit "java/lang/IllegalArgumentException" = true ∧ ∀ n ∈ ["java/lang/RuntimeException", "java/lang/Exception"], Bundle.fit n = true := by decide +kernel
theorem at_X9_202 : ∀ w ∈ vx_atS "Boringhead" 202 "java/lang/UnsupportedOperationException" ["java/lang/RuntimeException", "java/lang/Exception"], w ∈ lw_tbl ∧ (goodWord w = true ∨ nwk w = true) := by decide +kernel
theorem at_X9_202_ot : ∀ w ∈ vx_atS "Boringhead" 202 "java/lang/UnsupportedOperationException" ["java/lang/RuntimeException", "java/lang/Exception"], vx_ot w = true := by decide +kernel
theorem fit_UnsupportedOperationException : Bundle.fit "java/lang/UnsupportedOperationException" = true ∧ ∀ n ∈ ["java/lang/RuntimeException", "java/lang/Exception"], Bundle.fit n = true := by decide +kernel
theorem at_X9_139 : ∀ w ∈ vx_atS "Boringhead" 139 "java/lang/IllegalStateException" ["java/lang/RuntimeException", "java/lang/Exception"], w ∈ lw_tbl ∧ (goodWord w = true ∨ nwk w = true) := by decide +kernel
theorem at_X9_139_ot : ∀ w ∈ vx_atS "Boringhead" 139 "java/lang/IllegalStateException" ["java/lang/RuntimeException", "java/lang/Exception"], vx_ot w = true := by decide +kernel
theorem fit_IllegalStateException : Bundle.fit "java/lang/IllegalStateException" = true ∧ ∀ n ∈ ["java/lang/RuntimeException", "java/lang/Exception"], Bundle.fit n = true := by decide +kernel
theorem at_X9_194 : ∀ w ∈ vx_atS "Boringhead" 194 "java/lang/IndexOutOfBoundsException" ["java/lang/RuntimeException", "java/lang/Exception"], w ∈ lw_tbl ∧ (goodWord w = true ∨ nwk w = true) := by decide +kernel
theorem at_X9_194_ot : ∀ w ∈ vx_atS "Boringhead" 194 "java/lang/IndexOutOfBoundsException" ["java/lang/RuntimeException", "java/lang/Exception"], vx_ot w = true := by decide +kernel
theorem fit_IndexOutOfBoundsException : Bundle.fit "java/lang/IndexOutOfBoundsException" = true ∧ ∀ n ∈ ["java/lang/RuntimeException", "java/lang/Exception"], Bundle.fit n = true := by decide +kernel
theorem at_X9_427 : ∀ w ∈ vx_atS "Boringhead" 427 "java/lang/ArithmeticException" ["java/lang/RuntimeException", "java/lang/Exception"], w ∈ lw_tbl ∧ (goodWord w = true ∨ nwk w = true) := by decide +kernel
theorem at_X9_427_ot : ∀ w ∈ vx_atS "Boringhead" 427 "java/lang/ArithmeticException" ["java/lang/RuntimeException", "java/lang/Exception"], vx_ot w = true := by decide +kernel
theorem fit_ArithmeticException : Bundle.fit "java/lang/ArithmeticException" = true ∧ ∀ n ∈ ["java/lang/RuntimeException", "java/lang/Exception"], Bundle.fit n = true := by decide +kernel
