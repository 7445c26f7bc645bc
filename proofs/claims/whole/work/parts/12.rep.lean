abbrev Rg : Type := Int32 × Int32 × Int32 × Int32 × Bool × Int32 × Int32 × Int32 × Int32 × Int32 × Bool × Bool × Int32 × Int32
def Rg.turn (s : Rg) : Int32 := s.1
def Rg.kind (s : Rg) : Int32 := s.2.1
def Rg.pR (s : Rg) : Int32 := s.2.2.1
def Rg.pU (s : Rg) : Int32 := s.2.2.2.1
def Rg.fo (s : Rg) : Bool := s.2.2.2.2.1
def Rg.oR (s : Rg) : Int32 := s.2.2.2.2.2.1
def Rg.oU (s : Rg) : Int32 := s.2.2.2.2.2.2.1
def Rg.mi (s : Rg) : Int32 := s.2.2.2.2.2.2.2.1
def Rg.en (s : Rg) : Int32 := s.2.2.2.2.2.2.2.2.1
def Rg.mo (s : Rg) : Int32 := s.2.2.2.2.2.2.2.2.2.1
def Rg.no (s : Rg) : Bool := s.2.2.2.2.2.2.2.2.2.2.1
def Rg.it (s : Rg) : Bool := s.2.2.2.2.2.2.2.2.2.2.2.1
def Rg.fi (s : Rg) : Int32 := s.2.2.2.2.2.2.2.2.2.2.2.2.1
def Rg.ff (s : Rg) : Int32 := s.2.2.2.2.2.2.2.2.2.2.2.2.2
def Rg.w_turn (s : Rg) (v : Int32) : Rg := (v, s.kind, s.pR, s.pU, s.fo, s.oR, s.oU, s.mi, s.en, s.mo, s.no, s.it, s.fi, s.ff)
def Rg.w_kind (s : Rg) (v : Int32) : Rg := (s.turn, v, s.pR, s.pU, s.fo, s.oR, s.oU, s.mi, s.en, s.mo, s.no, s.it, s.fi, s.ff)
def Rg.w_pR (s : Rg) (v : Int32) : Rg := (s.turn, s.kind, v, s.pU, s.fo, s.oR, s.oU, s.mi, s.en, s.mo, s.no, s.it, s.fi, s.ff)
def Rg.w_pU (s : Rg) (v : Int32) : Rg := (s.turn, s.kind, s.pR, v, s.fo, s.oR, s.oU, s.mi, s.en, s.mo, s.no, s.it, s.fi, s.ff)
def Rg.w_fo (s : Rg) (v : Bool) : Rg := (s.turn, s.kind, s.pR, s.pU, v, s.oR, s.oU, s.mi, s.en, s.mo, s.no, s.it, s.fi, s.ff)
def Rg.w_oR (s : Rg) (v : Int32) : Rg := (s.turn, s.kind, s.pR, s.pU, s.fo, v, s.oU, s.mi, s.en, s.mo, s.no, s.it, s.fi, s.ff)
def Rg.w_oU (s : Rg) (v : Int32) : Rg := (s.turn, s.kind, s.pR, s.pU, s.fo, s.oR, v, s.mi, s.en, s.mo, s.no, s.it, s.fi, s.ff)
def Rg.w_mi (s : Rg) (v : Int32) : Rg := (s.turn, s.kind, s.pR, s.pU, s.fo, s.oR, s.oU, v, s.en, s.mo, s.no, s.it, s.fi, s.ff)
def Rg.w_en (s : Rg) (v : Int32) : Rg := (s.turn, s.kind, s.pR, s.pU, s.fo, s.oR, s.oU, s.mi, v, s.mo, s.no, s.it, s.fi, s.ff)
def Rg.w_mo (s : Rg) (v : Int32) : Rg := (s.turn, s.kind, s.pR, s.pU, s.fo, s.oR, s.oU, s.mi, s.en, v, s.no, s.it, s.fi, s.ff)
def Rg.w_no (s : Rg) (v : Bool) : Rg := (s.turn, s.kind, s.pR, s.pU, s.fo, s.oR, s.oU, s.mi, s.en, s.mo, v, s.it, s.fi, s.ff)
def Rg.w_it (s : Rg) (v : Bool) : Rg := (s.turn, s.kind, s.pR, s.pU, s.fo, s.oR, s.oU, s.mi, s.en, s.mo, s.no, v, s.fi, s.ff)
def Rg.w_fi (s : Rg) (v : Int32) : Rg := (s.turn, s.kind, s.pR, s.pU, s.fo, s.oR, s.oU, s.mi, s.en, s.mo, s.no, s.it, v, s.ff)
def Rg.w_ff (s : Rg) (v : Int32) : Rg := (s.turn, s.kind, s.pR, s.pU, s.fo, s.oR, s.oU, s.mi, s.en, s.mo, s.no, s.it, s.fi, v)
abbrev Hs : Type := Int32 × Int32 × Int32 × Int32 × Int32 × Bool × Int32
def Hs.fr (s : Hs) : Int32 := s.1
def Hs.to (s : Hs) : Int32 := s.2.1
def Hs.ofs (s : Hs) : Int32 := s.2.2.1
def Hs.lf (s : Hs) : Int32 := s.2.2.2.1
def Hs.ll (s : Hs) : Int32 := s.2.2.2.2.1
def Hs.wr (s : Hs) : Bool := s.2.2.2.2.2.1
def Hs.re (s : Hs) : Int32 := s.2.2.2.2.2.2
def Hs.w_fr (s : Hs) (v : Int32) : Hs := (v, s.to, s.ofs, s.lf, s.ll, s.wr, s.re)
def Hs.w_to (s : Hs) (v : Int32) : Hs := (s.fr, v, s.ofs, s.lf, s.ll, s.wr, s.re)
def Hs.w_ofs (s : Hs) (v : Int32) : Hs := (s.fr, s.to, v, s.lf, s.ll, s.wr, s.re)
def Hs.w_lf (s : Hs) (v : Int32) : Hs := (s.fr, s.to, s.ofs, v, s.ll, s.wr, s.re)
def Hs.w_ll (s : Hs) (v : Int32) : Hs := (s.fr, s.to, s.ofs, s.lf, v, s.wr, s.re)
def Hs.w_wr (s : Hs) (v : Bool) : Hs := (s.fr, s.to, s.ofs, s.lf, s.ll, v, s.re)
def Hs.w_re (s : Hs) (v : Int32) : Hs := (s.fr, s.to, s.ofs, s.lf, s.ll, s.wr, v)
abbrev Bo : Type := Int32 × Int32
def Bo.pl (s : Bo) : Int32 := s.1
def Bo.ki (s : Bo) : Int32 := s.2
def Bo.w_pl (s : Bo) (v : Int32) : Bo := (v, s.ki)
def Bo.w_ki (s : Bo) (v : Int32) : Bo := (s.pl, v)

def upT {α : Type} (f : Nat → α) (i : Nat) (v : α) : Nat → α := fun j => if j = i then v else f j
theorem upT_s {α : Type} (f : Nat → α) (i : Nat) (v : α) : upT f i v i = v := if_pos rfl
theorem upT_n {α : Type} {f : Nat → α} {i j : Nat} {v : α} (h : j ≠ i) : upT f i v j = f j := if_neg h
abbrev St : Type := (Nat → Int32) × (Nat → Int32) × (Nat → Int32) × (Nat → Int32) × (Nat → Int32) × (Nat → Int32) × (Nat → Int32) × (Nat → Int32) × (Nat → Int32) × Int32 × Int32 × Int32 × Int32 × Int32 × Bool × Int32 × Int32 × Int32 × Int32 × Int32 × Int32 × Int32 × Int32 × Int32 × Nat × (Nat → Rg) × Nat × (Nat → Hs) × Nat × (Nat → Bo)
def St.kinds (s : St) : Nat → Int32 := s.1
def St.refs (s : St) : Nat → Int32 := s.2.1
def St.depths (s : St) : Nat → Int32 := s.2.2.1
def St.waters (s : St) : Nat → Int32 := s.2.2.2.1
def St.bR (s : St) : Nat → Int32 := s.2.2.2.2.1
def St.bU (s : St) : Nat → Int32 := s.2.2.2.2.2.1
def St.wears (s : St) : Nat → Int32 := s.2.2.2.2.2.2.1
def St.order (s : St) : Nat → Int32 := s.2.2.2.2.2.2.2.1
def St.waits (s : St) : Nat → Int32 := s.2.2.2.2.2.2.2.2.1
def St.hR (s : St) : Int32 := s.2.2.2.2.2.2.2.2.2.1
def St.hU (s : St) : Int32 := s.2.2.2.2.2.2.2.2.2.2.1
def St.oR (s : St) : Int32 := s.2.2.2.2.2.2.2.2.2.2.2.1
def St.oU (s : St) : Int32 := s.2.2.2.2.2.2.2.2.2.2.2.2.1
def St.press (s : St) : Int32 := s.2.2.2.2.2.2.2.2.2.2.2.2.2.1
def St.foam (s : St) : Bool := s.2.2.2.2.2.2.2.2.2.2.2.2.2.2.1
def St.pR (s : St) : Int32 := s.2.2.2.2.2.2.2.2.2.2.2.2.2.2.2.1
def St.pU (s : St) : Int32 := s.2.2.2.2.2.2.2.2.2.2.2.2.2.2.2.2.1
def St.seg (s : St) : Int32 := s.2.2.2.2.2.2.2.2.2.2.2.2.2.2.2.2.2.1
def St.pit (s : St) : Int32 := s.2.2.2.2.2.2.2.2.2.2.2.2.2.2.2.2.2.2.1
def St.away (s : St) : Int32 := s.2.2.2.2.2.2.2.2.2.2.2.2.2.2.2.2.2.2.2.1
def St.mn (s : St) : Int32 := s.2.2.2.2.2.2.2.2.2.2.2.2.2.2.2.2.2.2.2.2.1
def St.fc (s : St) : Int32 := s.2.2.2.2.2.2.2.2.2.2.2.2.2.2.2.2.2.2.2.2.2.1
def St.fl (s : St) : Int32 := s.2.2.2.2.2.2.2.2.2.2.2.2.2.2.2.2.2.2.2.2.2.2.1
def St.fo (s : St) : Int32 := s.2.2.2.2.2.2.2.2.2.2.2.2.2.2.2.2.2.2.2.2.2.2.2.1
def St.n (s : St) : Nat := s.2.2.2.2.2.2.2.2.2.2.2.2.2.2.2.2.2.2.2.2.2.2.2.2.1
def St.ring (s : St) : Nat → Rg := s.2.2.2.2.2.2.2.2.2.2.2.2.2.2.2.2.2.2.2.2.2.2.2.2.2.1
def St.nh (s : St) : Nat := s.2.2.2.2.2.2.2.2.2.2.2.2.2.2.2.2.2.2.2.2.2.2.2.2.2.2.1
def St.hs (s : St) : Nat → Hs := s.2.2.2.2.2.2.2.2.2.2.2.2.2.2.2.2.2.2.2.2.2.2.2.2.2.2.2.1
def St.nb (s : St) : Nat := s.2.2.2.2.2.2.2.2.2.2.2.2.2.2.2.2.2.2.2.2.2.2.2.2.2.2.2.2.1
def St.bo (s : St) : Nat → Bo := s.2.2.2.2.2.2.2.2.2.2.2.2.2.2.2.2.2.2.2.2.2.2.2.2.2.2.2.2.2
def St.w_kinds (s : St) (v : Nat → Int32) : St := (v, s.refs, s.depths, s.waters, s.bR, s.bU, s.wears, s.order, s.waits, s.hR, s.hU, s.oR, s.oU, s.press, s.foam, s.pR, s.pU, s.seg, s.pit, s.away, s.mn, s.fc, s.fl, s.fo, s.n, s.ring, s.nh, s.hs, s.nb, s.bo)
def St.w_refs (s : St) (v : Nat → Int32) : St := (s.kinds, v, s.depths, s.waters, s.bR, s.bU, s.wears, s.order, s.waits, s.hR, s.hU, s.oR, s.oU, s.press, s.foam, s.pR, s.pU, s.seg, s.pit, s.away, s.mn, s.fc, s.fl, s.fo, s.n, s.ring, s.nh, s.hs, s.nb, s.bo)
def St.w_depths (s : St) (v : Nat → Int32) : St := (s.kinds, s.refs, v, s.waters, s.bR, s.bU, s.wears, s.order, s.waits, s.hR, s.hU, s.oR, s.oU, s.press, s.foam, s.pR, s.pU, s.seg, s.pit, s.away, s.mn, s.fc, s.fl, s.fo, s.n, s.ring, s.nh, s.hs, s.nb, s.bo)
def St.w_waters (s : St) (v : Nat → Int32) : St := (s.kinds, s.refs, s.depths, v, s.bR, s.bU, s.wears, s.order, s.waits, s.hR, s.hU, s.oR, s.oU, s.press, s.foam, s.pR, s.pU, s.seg, s.pit, s.away, s.mn, s.fc, s.fl, s.fo, s.n, s.ring, s.nh, s.hs, s.nb, s.bo)
def St.w_bR (s : St) (v : Nat → Int32) : St := (s.kinds, s.refs, s.depths, s.waters, v, s.bU, s.wears, s.order, s.waits, s.hR, s.hU, s.oR, s.oU, s.press, s.foam, s.pR, s.pU, s.seg, s.pit, s.away, s.mn, s.fc, s.fl, s.fo, s.n, s.ring, s.nh, s.hs, s.nb, s.bo)
def St.w_bU (s : St) (v : Nat → Int32) : St := (s.kinds, s.refs, s.depths, s.waters, s.bR, v, s.wears, s.order, s.waits, s.hR, s.hU, s.oR, s.oU, s.press, s.foam, s.pR, s.pU, s.seg, s.pit, s.away, s.mn, s.fc, s.fl, s.fo, s.n, s.ring, s.nh, s.hs, s.nb, s.bo)
def St.w_wears (s : St) (v : Nat → Int32) : St := (s.kinds, s.refs, s.depths, s.waters, s.bR, s.bU, v, s.order, s.waits, s.hR, s.hU, s.oR, s.oU, s.press, s.foam, s.pR, s.pU, s.seg, s.pit, s.away, s.mn, s.fc, s.fl, s.fo, s.n, s.ring, s.nh, s.hs, s.nb, s.bo)
def St.w_order (s : St) (v : Nat → Int32) : St := (s.kinds, s.refs, s.depths, s.waters, s.bR, s.bU, s.wears, v, s.waits, s.hR, s.hU, s.oR, s.oU, s.press, s.foam, s.pR, s.pU, s.seg, s.pit, s.away, s.mn, s.fc, s.fl, s.fo, s.n, s.ring, s.nh, s.hs, s.nb, s.bo)
def St.w_waits (s : St) (v : Nat → Int32) : St := (s.kinds, s.refs, s.depths, s.waters, s.bR, s.bU, s.wears, s.order, v, s.hR, s.hU, s.oR, s.oU, s.press, s.foam, s.pR, s.pU, s.seg, s.pit, s.away, s.mn, s.fc, s.fl, s.fo, s.n, s.ring, s.nh, s.hs, s.nb, s.bo)
def St.w_hR (s : St) (v : Int32) : St := (s.kinds, s.refs, s.depths, s.waters, s.bR, s.bU, s.wears, s.order, s.waits, v, s.hU, s.oR, s.oU, s.press, s.foam, s.pR, s.pU, s.seg, s.pit, s.away, s.mn, s.fc, s.fl, s.fo, s.n, s.ring, s.nh, s.hs, s.nb, s.bo)
def St.w_hU (s : St) (v : Int32) : St := (s.kinds, s.refs, s.depths, s.waters, s.bR, s.bU, s.wears, s.order, s.waits, s.hR, v, s.oR, s.oU, s.press, s.foam, s.pR, s.pU, s.seg, s.pit, s.away, s.mn, s.fc, s.fl, s.fo, s.n, s.ring, s.nh, s.hs, s.nb, s.bo)
def St.w_oR (s : St) (v : Int32) : St := (s.kinds, s.refs, s.depths, s.waters, s.bR, s.bU, s.wears, s.order, s.waits, s.hR, s.hU, v, s.oU, s.press, s.foam, s.pR, s.pU, s.seg, s.pit, s.away, s.mn, s.fc, s.fl, s.fo, s.n, s.ring, s.nh, s.hs, s.nb, s.bo)
def St.w_oU (s : St) (v : Int32) : St := (s.kinds, s.refs, s.depths, s.waters, s.bR, s.bU, s.wears, s.order, s.waits, s.hR, s.hU, s.oR, v, s.press, s.foam, s.pR, s.pU, s.seg, s.pit, s.away, s.mn, s.fc, s.fl, s.fo, s.n, s.ring, s.nh, s.hs, s.nb, s.bo)
def St.w_press (s : St) (v : Int32) : St := (s.kinds, s.refs, s.depths, s.waters, s.bR, s.bU, s.wears, s.order, s.waits, s.hR, s.hU, s.oR, s.oU, v, s.foam, s.pR, s.pU, s.seg, s.pit, s.away, s.mn, s.fc, s.fl, s.fo, s.n, s.ring, s.nh, s.hs, s.nb, s.bo)
def St.w_foam (s : St) (v : Bool) : St := (s.kinds, s.refs, s.depths, s.waters, s.bR, s.bU, s.wears, s.order, s.waits, s.hR, s.hU, s.oR, s.oU, s.press, v, s.pR, s.pU, s.seg, s.pit, s.away, s.mn, s.fc, s.fl, s.fo, s.n, s.ring, s.nh, s.hs, s.nb, s.bo)
def St.w_pR (s : St) (v : Int32) : St := (s.kinds, s.refs, s.depths, s.waters, s.bR, s.bU, s.wears, s.order, s.waits, s.hR, s.hU, s.oR, s.oU, s.press, s.foam, v, s.pU, s.seg, s.pit, s.away, s.mn, s.fc, s.fl, s.fo, s.n, s.ring, s.nh, s.hs, s.nb, s.bo)
def St.w_pU (s : St) (v : Int32) : St := (s.kinds, s.refs, s.depths, s.waters, s.bR, s.bU, s.wears, s.order, s.waits, s.hR, s.hU, s.oR, s.oU, s.press, s.foam, s.pR, v, s.seg, s.pit, s.away, s.mn, s.fc, s.fl, s.fo, s.n, s.ring, s.nh, s.hs, s.nb, s.bo)
def St.w_seg (s : St) (v : Int32) : St := (s.kinds, s.refs, s.depths, s.waters, s.bR, s.bU, s.wears, s.order, s.waits, s.hR, s.hU, s.oR, s.oU, s.press, s.foam, s.pR, s.pU, v, s.pit, s.away, s.mn, s.fc, s.fl, s.fo, s.n, s.ring, s.nh, s.hs, s.nb, s.bo)
def St.w_pit (s : St) (v : Int32) : St := (s.kinds, s.refs, s.depths, s.waters, s.bR, s.bU, s.wears, s.order, s.waits, s.hR, s.hU, s.oR, s.oU, s.press, s.foam, s.pR, s.pU, s.seg, v, s.away, s.mn, s.fc, s.fl, s.fo, s.n, s.ring, s.nh, s.hs, s.nb, s.bo)
def St.w_away (s : St) (v : Int32) : St := (s.kinds, s.refs, s.depths, s.waters, s.bR, s.bU, s.wears, s.order, s.waits, s.hR, s.hU, s.oR, s.oU, s.press, s.foam, s.pR, s.pU, s.seg, s.pit, v, s.mn, s.fc, s.fl, s.fo, s.n, s.ring, s.nh, s.hs, s.nb, s.bo)
def St.w_mn (s : St) (v : Int32) : St := (s.kinds, s.refs, s.depths, s.waters, s.bR, s.bU, s.wears, s.order, s.waits, s.hR, s.hU, s.oR, s.oU, s.press, s.foam, s.pR, s.pU, s.seg, s.pit, s.away, v, s.fc, s.fl, s.fo, s.n, s.ring, s.nh, s.hs, s.nb, s.bo)
def St.w_fc (s : St) (v : Int32) : St := (s.kinds, s.refs, s.depths, s.waters, s.bR, s.bU, s.wears, s.order, s.waits, s.hR, s.hU, s.oR, s.oU, s.press, s.foam, s.pR, s.pU, s.seg, s.pit, s.away, s.mn, v, s.fl, s.fo, s.n, s.ring, s.nh, s.hs, s.nb, s.bo)
def St.w_fl (s : St) (v : Int32) : St := (s.kinds, s.refs, s.depths, s.waters, s.bR, s.bU, s.wears, s.order, s.waits, s.hR, s.hU, s.oR, s.oU, s.press, s.foam, s.pR, s.pU, s.seg, s.pit, s.away, s.mn, s.fc, v, s.fo, s.n, s.ring, s.nh, s.hs, s.nb, s.bo)
def St.w_fo (s : St) (v : Int32) : St := (s.kinds, s.refs, s.depths, s.waters, s.bR, s.bU, s.wears, s.order, s.waits, s.hR, s.hU, s.oR, s.oU, s.press, s.foam, s.pR, s.pU, s.seg, s.pit, s.away, s.mn, s.fc, s.fl, v, s.n, s.ring, s.nh, s.hs, s.nb, s.bo)
def St.w_n (s : St) (v : Nat) : St := (s.kinds, s.refs, s.depths, s.waters, s.bR, s.bU, s.wears, s.order, s.waits, s.hR, s.hU, s.oR, s.oU, s.press, s.foam, s.pR, s.pU, s.seg, s.pit, s.away, s.mn, s.fc, s.fl, s.fo, v, s.ring, s.nh, s.hs, s.nb, s.bo)
def St.w_ring (s : St) (v : Nat → Rg) : St := (s.kinds, s.refs, s.depths, s.waters, s.bR, s.bU, s.wears, s.order, s.waits, s.hR, s.hU, s.oR, s.oU, s.press, s.foam, s.pR, s.pU, s.seg, s.pit, s.away, s.mn, s.fc, s.fl, s.fo, s.n, v, s.nh, s.hs, s.nb, s.bo)
def St.w_nh (s : St) (v : Nat) : St := (s.kinds, s.refs, s.depths, s.waters, s.bR, s.bU, s.wears, s.order, s.waits, s.hR, s.hU, s.oR, s.oU, s.press, s.foam, s.pR, s.pU, s.seg, s.pit, s.away, s.mn, s.fc, s.fl, s.fo, s.n, s.ring, v, s.hs, s.nb, s.bo)
def St.w_hs (s : St) (v : Nat → Hs) : St := (s.kinds, s.refs, s.depths, s.waters, s.bR, s.bU, s.wears, s.order, s.waits, s.hR, s.hU, s.oR, s.oU, s.press, s.foam, s.pR, s.pU, s.seg, s.pit, s.away, s.mn, s.fc, s.fl, s.fo, s.n, s.ring, s.nh, v, s.nb, s.bo)
def St.w_nb (s : St) (v : Nat) : St := (s.kinds, s.refs, s.depths, s.waters, s.bR, s.bU, s.wears, s.order, s.waits, s.hR, s.hU, s.oR, s.oU, s.press, s.foam, s.pR, s.pU, s.seg, s.pit, s.away, s.mn, s.fc, s.fl, s.fo, s.n, s.ring, s.nh, s.hs, v, s.bo)
def St.w_bo (s : St) (v : Nat → Bo) : St := (s.kinds, s.refs, s.depths, s.waters, s.bR, s.bU, s.wears, s.order, s.waits, s.hR, s.hU, s.oR, s.oU, s.press, s.foam, s.pR, s.pU, s.seg, s.pit, s.away, s.mn, s.fc, s.fl, s.fo, s.n, s.ring, s.nh, s.hs, s.nb, v)
def St.w_course (s : St) (v0 v1 v2 v3 : Int32) : St := (s.kinds, s.refs, s.depths, s.waters, s.bR, s.bU, s.wears, s.order, s.waits, v0, v1, v2, v3, s.press, s.foam, s.pR, s.pU, s.seg, s.pit, s.away, s.mn, s.fc, s.fl, s.fo, s.n, s.ring, s.nh, s.hs, s.nb, s.bo)
def St.a_ring (s : St) (r : Rg) : St := (s.kinds, s.refs, s.depths, s.waters, s.bR, s.bU, s.wears, s.order, s.waits, s.hR, s.hU, s.oR, s.oU, s.press, s.foam, s.pR, s.pU, s.seg, s.pit, s.away, s.mn, s.fc, s.fl, s.fo, s.n + 1, upT s.ring s.n r, s.nh, s.hs, s.nb, s.bo)
def St.a_house (s : St) (r : Hs) : St := (s.kinds, s.refs, s.depths, s.waters, s.bR, s.bU, s.wears, s.order, s.waits, s.hR, s.hU, s.oR, s.oU, s.press, s.foam, s.pR, s.pU, s.seg, s.pit, s.away, s.mn, s.fc, s.fl, s.fo, s.n, s.ring, s.nh + 1, upT s.hs s.nh r, s.nb, s.bo)
def St.a_bore (s : St) (r : Bo) : St := (s.kinds, s.refs, s.depths, s.waters, s.bR, s.bU, s.wears, s.order, s.waits, s.hR, s.hU, s.oR, s.oU, s.press, s.foam, s.pR, s.pU, s.seg, s.pit, s.away, s.mn, s.fc, s.fl, s.fo, s.n, s.ring, s.nh, s.hs, s.nb + 1, upT s.bo s.nb r)
abbrev Ex : Type := Int32 × Int32 × Int32 × Int32 × Int32 × Int32 × Int32 × Nat × Nat × Nat × (Nat → Option Nat) × (Nat → Option Nat) × (Nat → Option Nat)
def Ex.t0 (s : Ex) : Int32 := s.1
def Ex.t1 (s : Ex) : Int32 := s.2.1
def Ex.t2 (s : Ex) : Int32 := s.2.2.1
def Ex.t3 (s : Ex) : Int32 := s.2.2.2.1
def Ex.mB (s : Ex) : Int32 := s.2.2.2.2.1
def Ex.mH (s : Ex) : Int32 := s.2.2.2.2.2.1
def Ex.mO (s : Ex) : Int32 := s.2.2.2.2.2.2.1
def Ex.cB (s : Ex) : Nat := s.2.2.2.2.2.2.2.1
def Ex.cH (s : Ex) : Nat := s.2.2.2.2.2.2.2.2.1
def Ex.cO (s : Ex) : Nat := s.2.2.2.2.2.2.2.2.2.1
def Ex.fB (s : Ex) : Nat → Option Nat := s.2.2.2.2.2.2.2.2.2.2.1
def Ex.fH (s : Ex) : Nat → Option Nat := s.2.2.2.2.2.2.2.2.2.2.2.1
def Ex.fO (s : Ex) : Nat → Option Nat := s.2.2.2.2.2.2.2.2.2.2.2.2
def Ex.w_t0 (s : Ex) (v : Int32) : Ex := (v, s.t1, s.t2, s.t3, s.mB, s.mH, s.mO, s.cB, s.cH, s.cO, s.fB, s.fH, s.fO)
def Ex.w_t1 (s : Ex) (v : Int32) : Ex := (s.t0, v, s.t2, s.t3, s.mB, s.mH, s.mO, s.cB, s.cH, s.cO, s.fB, s.fH, s.fO)
def Ex.w_t2 (s : Ex) (v : Int32) : Ex := (s.t0, s.t1, v, s.t3, s.mB, s.mH, s.mO, s.cB, s.cH, s.cO, s.fB, s.fH, s.fO)
def Ex.w_t3 (s : Ex) (v : Int32) : Ex := (s.t0, s.t1, s.t2, v, s.mB, s.mH, s.mO, s.cB, s.cH, s.cO, s.fB, s.fH, s.fO)
def Ex.w_mB (s : Ex) (v : Int32) : Ex := (s.t0, s.t1, s.t2, s.t3, v, s.mH, s.mO, s.cB, s.cH, s.cO, s.fB, s.fH, s.fO)
def Ex.w_mH (s : Ex) (v : Int32) : Ex := (s.t0, s.t1, s.t2, s.t3, s.mB, v, s.mO, s.cB, s.cH, s.cO, s.fB, s.fH, s.fO)
def Ex.w_mO (s : Ex) (v : Int32) : Ex := (s.t0, s.t1, s.t2, s.t3, s.mB, s.mH, v, s.cB, s.cH, s.cO, s.fB, s.fH, s.fO)
def Ex.w_cB (s : Ex) (v : Nat) : Ex := (s.t0, s.t1, s.t2, s.t3, s.mB, s.mH, s.mO, v, s.cH, s.cO, s.fB, s.fH, s.fO)
def Ex.w_cH (s : Ex) (v : Nat) : Ex := (s.t0, s.t1, s.t2, s.t3, s.mB, s.mH, s.mO, s.cB, v, s.cO, s.fB, s.fH, s.fO)
def Ex.w_cO (s : Ex) (v : Nat) : Ex := (s.t0, s.t1, s.t2, s.t3, s.mB, s.mH, s.mO, s.cB, s.cH, v, s.fB, s.fH, s.fO)
def Ex.w_fB (s : Ex) (v : Nat → Option Nat) : Ex := (s.t0, s.t1, s.t2, s.t3, s.mB, s.mH, s.mO, s.cB, s.cH, s.cO, v, s.fH, s.fO)
def Ex.w_fH (s : Ex) (v : Nat → Option Nat) : Ex := (s.t0, s.t1, s.t2, s.t3, s.mB, s.mH, s.mO, s.cB, s.cH, s.cO, s.fB, v, s.fO)
def Ex.w_fO (s : Ex) (v : Nat → Option Nat) : Ex := (s.t0, s.t1, s.t2, s.t3, s.mB, s.mH, s.mO, s.cB, s.cH, s.cO, s.fB, s.fH, v)
def Ex.w_trial (s : Ex) (v0 v1 v2 v3 : Int32) : Ex := (v0, v1, v2, v3, s.mB, s.mH, s.mO, s.cB, s.cH, s.cO, s.fB, s.fH, s.fO)
def Ex.a_B (s : Ex) (mc : Int32) (cap : Nat) (f : Nat → Option Nat) : Ex := (s.t0, s.t1, s.t2, s.t3, mc, s.mH, s.mO, cap, s.cH, s.cO, f, s.fH, s.fO)
def Ex.a_H (s : Ex) (mc : Int32) (cap : Nat) (f : Nat → Option Nat) : Ex := (s.t0, s.t1, s.t2, s.t3, s.mB, mc, s.mO, s.cB, cap, s.cO, s.fB, f, s.fO)
def Ex.a_O (s : Ex) (mc : Int32) (cap : Nat) (f : Nat → Option Nat) : Ex := (s.t0, s.t1, s.t2, s.t3, s.mB, s.mH, mc, s.cB, s.cH, cap, s.fB, s.fH, f)
abbrev Ix : Type := Nat ⊕ Nat ⊕ Nat ⊕ Nat
abbrev Ix.main : Ix := .inl 0
abbrev Ix.soil : Ix := .inl 1
abbrev Ix.shield : Ix := .inl 2
abbrev Ix.course : Ix := .inl 3
abbrev Ix.trial : Ix := .inl 4
abbrev Ix.yard : Ix := .inl 5
abbrev Ix.clock : Ix := .inl 6
abbrev Ix.contract : Ix := .inl 7
abbrev Ix.built : Ix := .inl 8
abbrev Ix.houses : Ix := .inl 9
abbrev Ix.bores : Ix := .inl 10
abbrev Ix.kinds : Ix := .inl 11
abbrev Ix.refs : Ix := .inl 12
abbrev Ix.depths : Ix := .inl 13
abbrev Ix.waters : Ix := .inl 14
abbrev Ix.bR : Ix := .inl 15
abbrev Ix.bU : Ix := .inl 16
abbrev Ix.wears : Ix := .inl 17
abbrev Ix.order : Ix := .inl 18
abbrev Ix.waits : Ix := .inl 19
abbrev Ix.rowB : Ix := .inl 20
abbrev Ix.rowH : Ix := .inl 21
abbrev Ix.rowO : Ix := .inl 22
abbrev Ix.ring (i : Nat) : Ix := .inr (.inl i)
abbrev Ix.house (i : Nat) : Ix := .inr (.inr (.inl i))
abbrev Ix.bore (i : Nat) : Ix := .inr (.inr (.inr i))
abbrev rfs (r : Rg) : List Value := [.int r.turn, .int r.kind, .int r.pR, .int r.pU, .int (bI r.fo), .int r.oR, .int r.oU, .int r.mi, .int r.en, .int r.mo, .int (bI r.no), .int (bI r.it), .int r.fi, .int r.ff]
abbrev hfs (r : Hs) : List Value := [.int r.fr, .int r.to, .int r.ofs, .int r.lf, .int r.ll, .int (bI r.wr), .int r.re]
abbrev bfs (r : Bo) : List Value := [.int r.pl, .int r.ki]
def skV (x : Ex) : Nat → Prop
  | 0 => True
  | 1 => True
  | 2 => True
  | 3 => True
  | 4 => True
  | 5 => True
  | 6 => True
  | 7 => True
  | 8 => True
  | 9 => True
  | 10 => True
  | 11 => True
  | 12 => True
  | 13 => True
  | 14 => True
  | 15 => True
  | 16 => True
  | 17 => True
  | 18 => True
  | 19 => True
  | 20 => ¬ x.cB = 0
  | 21 => ¬ x.cH = 0
  | 22 => ¬ x.cO = 0
  | _ => False
def VC (x : Ex) (s : St) : Ix → Prop
  | .inl a => skV x a
  | .inr (.inl i) => i < s.n
  | .inr (.inr (.inl i)) => i < s.nh
  | .inr (.inr (.inr i)) => i < s.nb
def skC (g : Gl) (ad : Ix → Nat) (x : Ex) (s : St) : Nat → va_E
  | 0 => .inr (14, [.ref (ad .soil), .ref (ad .shield), .ref (ad .course), .ref (ad .trial), .ref (ad .yard), .ref (ad .clock), .ref (ad .contract), .ref (ad .built), .ref (ad .houses)])
  | 1 => .inr (12, [.ref (ad .kinds), .ref (ad .refs), .ref (ad .depths), .ref (ad .waters), .ref (ad .bR), .ref (ad .bU), .ref (ad .bores)])
  | 2 => .inr (11, [.ref (ad .wears), .int s.press, .int (bI s.foam), .int s.pR, .int s.pU])
  | 3 => .inr (8, [.int s.hR, .int s.hU, .int s.oR, .int s.oU])
  | 4 => .inr (8, [.int x.t0, .int x.t1, .int x.t2, .int x.t3])
  | 5 => .inr (13, [.int s.seg, .int s.pit, .int s.away])
  | 6 => .inr (6, [.int s.mn, .int s.fc, .int s.fl, .int s.fo])
  | 7 => .inr (7, [.ref (ad .order), .ref (ad .waits)])
  | 8 => alE x.mB (ad .rowB) s.n
  | 9 => alE x.mH (ad .rowH) s.nh
  | 10 => alE x.mO (ad .rowO) s.nb
  | 11 => .inl (g.2.1 0, 200, .inl s.kinds)
  | 12 => .inl (g.2.1 0, 200, .inl s.refs)
  | 13 => .inl (g.2.1 0, 200, .inl s.depths)
  | 14 => .inl (g.2.1 0, 200, .inl s.waters)
  | 15 => .inl (g.2.1 0, 200, .inl s.bR)
  | 16 => .inl (g.2.1 0, 200, .inl s.bU)
  | 17 => .inl (g.2.1 0, 8, .inl s.wears)
  | 18 => .inl (g.2.1 1, 7, .inl s.order)
  | 19 => .inl (g.2.1 0, 3, .inl s.waits)
  | 20 => rwE g x.cB x.fB
  | 21 => rwE g x.cH x.fH
  | 22 => rwE g x.cO x.fO
  | _ => .inr (0, [])
def cellC (g : Gl) (ad : Ix → Nat) (x : Ex) (s : St) : Ix → va_E
  | .inl a => skC g ad x s a
  | .inr (.inl i) => .inr (10, rfs (s.ring i))
  | .inr (.inr (.inl i)) => .inr (9, hfs (s.hs i))
  | .inr (.inr (.inr i)) => .inr (5, bfs (s.bo i))
/-- a list: its row's size, and what lies in it -/
def lsO (g : Gl) (cap n ed : Nat) (f : Nat → Option Nat) (it : Nat → Nat) : Prop := cap ∈ caps ∧ n ≤ cap ∧ (cap = 0 → ed = g.2.2.1 19) ∧ ∀ i, i < n → f i = some (it i)
def RepC (g : Gl) (ad : Ix → Nat) (x : Ex) (s : St) (ω : Wd) : Prop :=
  (∀ k, VC x s k → ω (ad k) = some (cellC g ad x s k)) ∧
  (∀ k k', VC x s k → VC x s k' → ad k = ad k' → k = k') ∧
  lsO g x.cB s.n (ad .rowB) x.fB (fun i => ad (.ring i)) ∧
  lsO g x.cH s.nh (ad .rowH) x.fH (fun i => ad (.house i)) ∧
  lsO g x.cO s.nb (ad .rowO) x.fO (fun i => ad (.bore i)) ∧ g.2.1 3 ≠ g.2.1 0
theorem Rep_set {I : Type} {V : I → Prop} {cell cell' : I → va_E} {ad : I → Nat} {ω : Wd} (hc : ∀ k, V k → ω (ad k) = some (cell k)) (inj : ∀ k k', V k → V k' → ad k = ad k' → k = k') (k : I) (hk : V k) (e : va_E) (he : cell' k = e) (hs : ∀ k', k' ≠ k → cell' k' = cell k') : ∀ k', V k' → wup ω (ad k) e (ad k') = some (cell' k') := by
  intro k' hk'
  by_cases h : k' = k
  · subst h
    rw [wup_s, he]
  · rw [wup_n (fun z => h (inj k' k hk' hk z)), hc k' hk', hs k' h]
section REPC
variable {g : Gl} {ad : Ix → Nat} {x : Ex} {s : St} {ω : Wd}
theorem RepC.c (h : RepC g ad x s ω) : ∀ k, VC x s k → ω (ad k) = some (cellC g ad x s k) := And.left h
theorem RepC.inj (h : RepC g ad x s ω) : ∀ k k', VC x s k → VC x s k' → ad k = ad k' → k = k' := And.left (And.right h)
theorem RepC.lB (h : RepC g ad x s ω) : lsO g x.cB s.n (ad .rowB) x.fB (fun i => ad (.ring i)) := And.left (And.right (And.right h))
theorem RepC.lH (h : RepC g ad x s ω) : lsO g x.cH s.nh (ad .rowH) x.fH (fun i => ad (.house i)) := And.left (And.right (And.right (And.right h)))
theorem RepC.lO (h : RepC g ad x s ω) : lsO g x.cO s.nb (ad .rowO) x.fO (fun i => ad (.bore i)) := And.left (And.right (And.right (And.right (And.right h))))
theorem RepC.hg (h : RepC g ad x s ω) : g.2.1 3 ≠ g.2.1 0 := And.right (And.right (And.right (And.right (And.right h))))
theorem RepC.f_main (h : RepC g ad x s ω) : ω (ad .main) = some (.inr (14, [.ref (ad .soil), .ref (ad .shield), .ref (ad .course), .ref (ad .trial), .ref (ad .yard), .ref (ad .clock), .ref (ad .contract), .ref (ad .built), .ref (ad .houses)])) := h.c .main trivial
theorem RepC.f_soil (h : RepC g ad x s ω) : ω (ad .soil) = some (.inr (12, [.ref (ad .kinds), .ref (ad .refs), .ref (ad .depths), .ref (ad .waters), .ref (ad .bR), .ref (ad .bU), .ref (ad .bores)])) := h.c .soil trivial
theorem RepC.f_shield (h : RepC g ad x s ω) : ω (ad .shield) = some (.inr (11, [.ref (ad .wears), .int s.press, .int (bI s.foam), .int s.pR, .int s.pU])) := h.c .shield trivial
theorem RepC.f_course (h : RepC g ad x s ω) : ω (ad .course) = some (.inr (8, [.int s.hR, .int s.hU, .int s.oR, .int s.oU])) := h.c .course trivial
theorem RepC.f_trial (h : RepC g ad x s ω) : ω (ad .trial) = some (.inr (8, [.int x.t0, .int x.t1, .int x.t2, .int x.t3])) := h.c .trial trivial
theorem RepC.f_yard (h : RepC g ad x s ω) : ω (ad .yard) = some (.inr (13, [.int s.seg, .int s.pit, .int s.away])) := h.c .yard trivial
theorem RepC.f_clock (h : RepC g ad x s ω) : ω (ad .clock) = some (.inr (6, [.int s.mn, .int s.fc, .int s.fl, .int s.fo])) := h.c .clock trivial
theorem RepC.f_contract (h : RepC g ad x s ω) : ω (ad .contract) = some (.inr (7, [.ref (ad .order), .ref (ad .waits)])) := h.c .contract trivial
theorem RepC.f_built (h : RepC g ad x s ω) : ω (ad .built) = some (alE x.mB (ad .rowB) s.n) := h.c .built trivial
theorem RepC.f_ring (h : RepC g ad x s ω) {i : Nat} (hi : i < s.n) : ω (ad (.ring i)) = some (.inr (10, [.int (s.ring i).turn, .int (s.ring i).kind, .int (s.ring i).pR, .int (s.ring i).pU, .int (bI (s.ring i).fo), .int (s.ring i).oR, .int (s.ring i).oU, .int (s.ring i).mi, .int (s.ring i).en, .int (s.ring i).mo, .int (bI (s.ring i).no), .int (bI (s.ring i).it), .int (s.ring i).fi, .int (s.ring i).ff])) := h.c (.ring i) hi
theorem RepC.p_ring (h : RepC g ad x s ω) {i : Nat} (hi : i < s.n) : ¬ x.cB = 0 ∧ ω (ad .rowB) = some (rwE g x.cB x.fB) ∧ x.cB ≤ 163 ∧ s.n ≤ x.cB ∧ x.fB i = some (ad (.ring i)) := by
  have hz : ¬ x.cB = 0 := fun z9 => by have := h.lB.2.1; omega
  exact ⟨hz, h.c .rowB hz, caps_le _ h.lB.1, h.lB.2.1, h.lB.2.2.2 i hi⟩
theorem RepC.f_houses (h : RepC g ad x s ω) : ω (ad .houses) = some (alE x.mH (ad .rowH) s.nh) := h.c .houses trivial
theorem RepC.f_house (h : RepC g ad x s ω) {i : Nat} (hi : i < s.nh) : ω (ad (.house i)) = some (.inr (9, [.int (s.hs i).fr, .int (s.hs i).to, .int (s.hs i).ofs, .int (s.hs i).lf, .int (s.hs i).ll, .int (bI (s.hs i).wr), .int (s.hs i).re])) := h.c (.house i) hi
theorem RepC.p_house (h : RepC g ad x s ω) {i : Nat} (hi : i < s.nh) : ¬ x.cH = 0 ∧ ω (ad .rowH) = some (rwE g x.cH x.fH) ∧ x.cH ≤ 163 ∧ s.nh ≤ x.cH ∧ x.fH i = some (ad (.house i)) := by
  have hz : ¬ x.cH = 0 := fun z9 => by have := h.lH.2.1; omega
  exact ⟨hz, h.c .rowH hz, caps_le _ h.lH.1, h.lH.2.1, h.lH.2.2.2 i hi⟩
theorem RepC.f_bores (h : RepC g ad x s ω) : ω (ad .bores) = some (alE x.mO (ad .rowO) s.nb) := h.c .bores trivial
theorem RepC.f_bore (h : RepC g ad x s ω) {i : Nat} (hi : i < s.nb) : ω (ad (.bore i)) = some (.inr (5, [.int (s.bo i).pl, .int (s.bo i).ki])) := h.c (.bore i) hi
theorem RepC.p_bore (h : RepC g ad x s ω) {i : Nat} (hi : i < s.nb) : ¬ x.cO = 0 ∧ ω (ad .rowO) = some (rwE g x.cO x.fO) ∧ x.cO ≤ 163 ∧ s.nb ≤ x.cO ∧ x.fO i = some (ad (.bore i)) := by
  have hz : ¬ x.cO = 0 := fun z9 => by have := h.lO.2.1; omega
  exact ⟨hz, h.c .rowO hz, caps_le _ h.lO.1, h.lO.2.1, h.lO.2.2.2 i hi⟩
theorem RepC.f_kinds (h : RepC g ad x s ω) : ω (ad .kinds) = some (.inl (g.2.1 0, 200, .inl s.kinds)) := h.c .kinds trivial
theorem RepC.w_kinds (h : RepC g ad x s ω) (f : Nat → Int32) : RepC g ad x (s.w_kinds f) (wup ω (ad .kinds) (.inl (g.2.1 0, 200, .inl f))) := ⟨Rep_set h.c h.inj .kinds trivial _ rfl (by intro k' hne; rcases k' with a9 | i9 | i9 | i9 <;> first | rfl | (rcases a9 with _ | _ | _ | _ | _ | _ | _ | _ | _ | _ | _ | _ | _ | _ | _ | _ | _ | _ | _ | _ | _ | _ | _ | a9 <;> first | rfl | exact absurd rfl hne)), h.inj, h.lB, h.lH, h.lO, h.hg⟩
theorem RepC.f_refs (h : RepC g ad x s ω) : ω (ad .refs) = some (.inl (g.2.1 0, 200, .inl s.refs)) := h.c .refs trivial
theorem RepC.w_refs (h : RepC g ad x s ω) (f : Nat → Int32) : RepC g ad x (s.w_refs f) (wup ω (ad .refs) (.inl (g.2.1 0, 200, .inl f))) := ⟨Rep_set h.c h.inj .refs trivial _ rfl (by intro k' hne; rcases k' with a9 | i9 | i9 | i9 <;> first | rfl | (rcases a9 with _ | _ | _ | _ | _ | _ | _ | _ | _ | _ | _ | _ | _ | _ | _ | _ | _ | _ | _ | _ | _ | _ | _ | a9 <;> first | rfl | exact absurd rfl hne)), h.inj, h.lB, h.lH, h.lO, h.hg⟩
theorem RepC.f_depths (h : RepC g ad x s ω) : ω (ad .depths) = some (.inl (g.2.1 0, 200, .inl s.depths)) := h.c .depths trivial
theorem RepC.w_depths (h : RepC g ad x s ω) (f : Nat → Int32) : RepC g ad x (s.w_depths f) (wup ω (ad .depths) (.inl (g.2.1 0, 200, .inl f))) := ⟨Rep_set h.c h.inj .depths trivial _ rfl (by intro k' hne; rcases k' with a9 | i9 | i9 | i9 <;> first | rfl | (rcases a9 with _ | _ | _ | _ | _ | _ | _ | _ | _ | _ | _ | _ | _ | _ | _ | _ | _ | _ | _ | _ | _ | _ | _ | a9 <;> first | rfl | exact absurd rfl hne)), h.inj, h.lB, h.lH, h.lO, h.hg⟩
theorem RepC.f_waters (h : RepC g ad x s ω) : ω (ad .waters) = some (.inl (g.2.1 0, 200, .inl s.waters)) := h.c .waters trivial
theorem RepC.w_waters (h : RepC g ad x s ω) (f : Nat → Int32) : RepC g ad x (s.w_waters f) (wup ω (ad .waters) (.inl (g.2.1 0, 200, .inl f))) := ⟨Rep_set h.c h.inj .waters trivial _ rfl (by intro k' hne; rcases k' with a9 | i9 | i9 | i9 <;> first | rfl | (rcases a9 with _ | _ | _ | _ | _ | _ | _ | _ | _ | _ | _ | _ | _ | _ | _ | _ | _ | _ | _ | _ | _ | _ | _ | a9 <;> first | rfl | exact absurd rfl hne)), h.inj, h.lB, h.lH, h.lO, h.hg⟩
theorem RepC.f_bR (h : RepC g ad x s ω) : ω (ad .bR) = some (.inl (g.2.1 0, 200, .inl s.bR)) := h.c .bR trivial
theorem RepC.w_bR (h : RepC g ad x s ω) (f : Nat → Int32) : RepC g ad x (s.w_bR f) (wup ω (ad .bR) (.inl (g.2.1 0, 200, .inl f))) := ⟨Rep_set h.c h.inj .bR trivial _ rfl (by intro k' hne; rcases k' with a9 | i9 | i9 | i9 <;> first | rfl | (rcases a9 with _ | _ | _ | _ | _ | _ | _ | _ | _ | _ | _ | _ | _ | _ | _ | _ | _ | _ | _ | _ | _ | _ | _ | a9 <;> first | rfl | exact absurd rfl hne)), h.inj, h.lB, h.lH, h.lO, h.hg⟩
theorem RepC.f_bU (h : RepC g ad x s ω) : ω (ad .bU) = some (.inl (g.2.1 0, 200, .inl s.bU)) := h.c .bU trivial
theorem RepC.w_bU (h : RepC g ad x s ω) (f : Nat → Int32) : RepC g ad x (s.w_bU f) (wup ω (ad .bU) (.inl (g.2.1 0, 200, .inl f))) := ⟨Rep_set h.c h.inj .bU trivial _ rfl (by intro k' hne; rcases k' with a9 | i9 | i9 | i9 <;> first | rfl | (rcases a9 with _ | _ | _ | _ | _ | _ | _ | _ | _ | _ | _ | _ | _ | _ | _ | _ | _ | _ | _ | _ | _ | _ | _ | a9 <;> first | rfl | exact absurd rfl hne)), h.inj, h.lB, h.lH, h.lO, h.hg⟩
theorem RepC.f_wears (h : RepC g ad x s ω) : ω (ad .wears) = some (.inl (g.2.1 0, 8, .inl s.wears)) := h.c .wears trivial
theorem RepC.w_wears (h : RepC g ad x s ω) (f : Nat → Int32) : RepC g ad x (s.w_wears f) (wup ω (ad .wears) (.inl (g.2.1 0, 8, .inl f))) := ⟨Rep_set h.c h.inj .wears trivial _ rfl (by intro k' hne; rcases k' with a9 | i9 | i9 | i9 <;> first | rfl | (rcases a9 with _ | _ | _ | _ | _ | _ | _ | _ | _ | _ | _ | _ | _ | _ | _ | _ | _ | _ | _ | _ | _ | _ | _ | a9 <;> first | rfl | exact absurd rfl hne)), h.inj, h.lB, h.lH, h.lO, h.hg⟩
theorem RepC.f_order (h : RepC g ad x s ω) : ω (ad .order) = some (.inl (g.2.1 1, 7, .inl s.order)) := h.c .order trivial
theorem RepC.w_order (h : RepC g ad x s ω) (f : Nat → Int32) : RepC g ad x (s.w_order f) (wup ω (ad .order) (.inl (g.2.1 1, 7, .inl f))) := ⟨Rep_set h.c h.inj .order trivial _ rfl (by intro k' hne; rcases k' with a9 | i9 | i9 | i9 <;> first | rfl | (rcases a9 with _ | _ | _ | _ | _ | _ | _ | _ | _ | _ | _ | _ | _ | _ | _ | _ | _ | _ | _ | _ | _ | _ | _ | a9 <;> first | rfl | exact absurd rfl hne)), h.inj, h.lB, h.lH, h.lO, h.hg⟩
theorem RepC.f_waits (h : RepC g ad x s ω) : ω (ad .waits) = some (.inl (g.2.1 0, 3, .inl s.waits)) := h.c .waits trivial
theorem RepC.w_waits (h : RepC g ad x s ω) (f : Nat → Int32) : RepC g ad x (s.w_waits f) (wup ω (ad .waits) (.inl (g.2.1 0, 3, .inl f))) := ⟨Rep_set h.c h.inj .waits trivial _ rfl (by intro k' hne; rcases k' with a9 | i9 | i9 | i9 <;> first | rfl | (rcases a9 with _ | _ | _ | _ | _ | _ | _ | _ | _ | _ | _ | _ | _ | _ | _ | _ | _ | _ | _ | _ | _ | _ | _ | a9 <;> first | rfl | exact absurd rfl hne)), h.inj, h.lB, h.lH, h.lO, h.hg⟩
theorem RepC.s_course_0 (h : RepC g ad x s ω) (v : Int32) : RepC g ad x (s.w_hR v) (wup ω (ad .course) (.inr (8, List.set [.int s.hR, .int s.hU, .int s.oR, .int s.oU] 0 (.int v)))) := ⟨Rep_set h.c h.inj .course trivial _ rfl (by intro k' hne; rcases k' with a9 | i9 | i9 | i9 <;> first | rfl | (rcases a9 with _ | _ | _ | _ | _ | _ | _ | _ | _ | _ | _ | _ | _ | _ | _ | _ | _ | _ | _ | _ | _ | _ | _ | a9 <;> first | rfl | exact absurd rfl hne)), h.inj, h.lB, h.lH, h.lO, h.hg⟩
theorem RepC.s_course_1 (h : RepC g ad x s ω) (v : Int32) : RepC g ad x (s.w_hU v) (wup ω (ad .course) (.inr (8, List.set [.int s.hR, .int s.hU, .int s.oR, .int s.oU] 1 (.int v)))) := ⟨Rep_set h.c h.inj .course trivial _ rfl (by intro k' hne; rcases k' with a9 | i9 | i9 | i9 <;> first | rfl | (rcases a9 with _ | _ | _ | _ | _ | _ | _ | _ | _ | _ | _ | _ | _ | _ | _ | _ | _ | _ | _ | _ | _ | _ | _ | a9 <;> first | rfl | exact absurd rfl hne)), h.inj, h.lB, h.lH, h.lO, h.hg⟩
theorem RepC.s_course_2 (h : RepC g ad x s ω) (v : Int32) : RepC g ad x (s.w_oR v) (wup ω (ad .course) (.inr (8, List.set [.int s.hR, .int s.hU, .int s.oR, .int s.oU] 2 (.int v)))) := ⟨Rep_set h.c h.inj .course trivial _ rfl (by intro k' hne; rcases k' with a9 | i9 | i9 | i9 <;> first | rfl | (rcases a9 with _ | _ | _ | _ | _ | _ | _ | _ | _ | _ | _ | _ | _ | _ | _ | _ | _ | _ | _ | _ | _ | _ | _ | a9 <;> first | rfl | exact absurd rfl hne)), h.inj, h.lB, h.lH, h.lO, h.hg⟩
theorem RepC.s_course_3 (h : RepC g ad x s ω) (v : Int32) : RepC g ad x (s.w_oU v) (wup ω (ad .course) (.inr (8, List.set [.int s.hR, .int s.hU, .int s.oR, .int s.oU] 3 (.int v)))) := ⟨Rep_set h.c h.inj .course trivial _ rfl (by intro k' hne; rcases k' with a9 | i9 | i9 | i9 <;> first | rfl | (rcases a9 with _ | _ | _ | _ | _ | _ | _ | _ | _ | _ | _ | _ | _ | _ | _ | _ | _ | _ | _ | _ | _ | _ | _ | a9 <;> first | rfl | exact absurd rfl hne)), h.inj, h.lB, h.lH, h.lO, h.hg⟩
theorem RepC.s_trial_0 (h : RepC g ad x s ω) (v : Int32) : RepC g ad (x.w_t0 v) s (wup ω (ad .trial) (.inr (8, List.set [.int x.t0, .int x.t1, .int x.t2, .int x.t3] 0 (.int v)))) := ⟨Rep_set h.c h.inj .trial trivial _ rfl (by intro k' hne; rcases k' with a9 | i9 | i9 | i9 <;> first | rfl | (rcases a9 with _ | _ | _ | _ | _ | _ | _ | _ | _ | _ | _ | _ | _ | _ | _ | _ | _ | _ | _ | _ | _ | _ | _ | a9 <;> first | rfl | exact absurd rfl hne)), h.inj, h.lB, h.lH, h.lO, h.hg⟩
theorem RepC.s_trial_1 (h : RepC g ad x s ω) (v : Int32) : RepC g ad (x.w_t1 v) s (wup ω (ad .trial) (.inr (8, List.set [.int x.t0, .int x.t1, .int x.t2, .int x.t3] 1 (.int v)))) := ⟨Rep_set h.c h.inj .trial trivial _ rfl (by intro k' hne; rcases k' with a9 | i9 | i9 | i9 <;> first | rfl | (rcases a9 with _ | _ | _ | _ | _ | _ | _ | _ | _ | _ | _ | _ | _ | _ | _ | _ | _ | _ | _ | _ | _ | _ | _ | a9 <;> first | rfl | exact absurd rfl hne)), h.inj, h.lB, h.lH, h.lO, h.hg⟩
theorem RepC.s_trial_2 (h : RepC g ad x s ω) (v : Int32) : RepC g ad (x.w_t2 v) s (wup ω (ad .trial) (.inr (8, List.set [.int x.t0, .int x.t1, .int x.t2, .int x.t3] 2 (.int v)))) := ⟨Rep_set h.c h.inj .trial trivial _ rfl (by intro k' hne; rcases k' with a9 | i9 | i9 | i9 <;> first | rfl | (rcases a9 with _ | _ | _ | _ | _ | _ | _ | _ | _ | _ | _ | _ | _ | _ | _ | _ | _ | _ | _ | _ | _ | _ | _ | a9 <;> first | rfl | exact absurd rfl hne)), h.inj, h.lB, h.lH, h.lO, h.hg⟩
theorem RepC.s_trial_3 (h : RepC g ad x s ω) (v : Int32) : RepC g ad (x.w_t3 v) s (wup ω (ad .trial) (.inr (8, List.set [.int x.t0, .int x.t1, .int x.t2, .int x.t3] 3 (.int v)))) := ⟨Rep_set h.c h.inj .trial trivial _ rfl (by intro k' hne; rcases k' with a9 | i9 | i9 | i9 <;> first | rfl | (rcases a9 with _ | _ | _ | _ | _ | _ | _ | _ | _ | _ | _ | _ | _ | _ | _ | _ | _ | _ | _ | _ | _ | _ | _ | a9 <;> first | rfl | exact absurd rfl hne)), h.inj, h.lB, h.lH, h.lO, h.hg⟩
theorem RepC.s_yard_0 (h : RepC g ad x s ω) (v : Int32) : RepC g ad x (s.w_seg v) (wup ω (ad .yard) (.inr (13, List.set [.int s.seg, .int s.pit, .int s.away] 0 (.int v)))) := ⟨Rep_set h.c h.inj .yard trivial _ rfl (by intro k' hne; rcases k' with a9 | i9 | i9 | i9 <;> first | rfl | (rcases a9 with _ | _ | _ | _ | _ | _ | _ | _ | _ | _ | _ | _ | _ | _ | _ | _ | _ | _ | _ | _ | _ | _ | _ | a9 <;> first | rfl | exact absurd rfl hne)), h.inj, h.lB, h.lH, h.lO, h.hg⟩
theorem RepC.s_yard_1 (h : RepC g ad x s ω) (v : Int32) : RepC g ad x (s.w_pit v) (wup ω (ad .yard) (.inr (13, List.set [.int s.seg, .int s.pit, .int s.away] 1 (.int v)))) := ⟨Rep_set h.c h.inj .yard trivial _ rfl (by intro k' hne; rcases k' with a9 | i9 | i9 | i9 <;> first | rfl | (rcases a9 with _ | _ | _ | _ | _ | _ | _ | _ | _ | _ | _ | _ | _ | _ | _ | _ | _ | _ | _ | _ | _ | _ | _ | a9 <;> first | rfl | exact absurd rfl hne)), h.inj, h.lB, h.lH, h.lO, h.hg⟩
theorem RepC.s_yard_2 (h : RepC g ad x s ω) (v : Int32) : RepC g ad x (s.w_away v) (wup ω (ad .yard) (.inr (13, List.set [.int s.seg, .int s.pit, .int s.away] 2 (.int v)))) := ⟨Rep_set h.c h.inj .yard trivial _ rfl (by intro k' hne; rcases k' with a9 | i9 | i9 | i9 <;> first | rfl | (rcases a9 with _ | _ | _ | _ | _ | _ | _ | _ | _ | _ | _ | _ | _ | _ | _ | _ | _ | _ | _ | _ | _ | _ | _ | a9 <;> first | rfl | exact absurd rfl hne)), h.inj, h.lB, h.lH, h.lO, h.hg⟩
theorem RepC.s_clock_0 (h : RepC g ad x s ω) (v : Int32) : RepC g ad x (s.w_mn v) (wup ω (ad .clock) (.inr (6, List.set [.int s.mn, .int s.fc, .int s.fl, .int s.fo] 0 (.int v)))) := ⟨Rep_set h.c h.inj .clock trivial _ rfl (by intro k' hne; rcases k' with a9 | i9 | i9 | i9 <;> first | rfl | (rcases a9 with _ | _ | _ | _ | _ | _ | _ | _ | _ | _ | _ | _ | _ | _ | _ | _ | _ | _ | _ | _ | _ | _ | _ | a9 <;> first | rfl | exact absurd rfl hne)), h.inj, h.lB, h.lH, h.lO, h.hg⟩
theorem RepC.s_clock_1 (h : RepC g ad x s ω) (v : Int32) : RepC g ad x (s.w_fc v) (wup ω (ad .clock) (.inr (6, List.set [.int s.mn, .int s.fc, .int s.fl, .int s.fo] 1 (.int v)))) := ⟨Rep_set h.c h.inj .clock trivial _ rfl (by intro k' hne; rcases k' with a9 | i9 | i9 | i9 <;> first | rfl | (rcases a9 with _ | _ | _ | _ | _ | _ | _ | _ | _ | _ | _ | _ | _ | _ | _ | _ | _ | _ | _ | _ | _ | _ | _ | a9 <;> first | rfl | exact absurd rfl hne)), h.inj, h.lB, h.lH, h.lO, h.hg⟩
theorem RepC.s_clock_2 (h : RepC g ad x s ω) (v : Int32) : RepC g ad x (s.w_fl v) (wup ω (ad .clock) (.inr (6, List.set [.int s.mn, .int s.fc, .int s.fl, .int s.fo] 2 (.int v)))) := ⟨Rep_set h.c h.inj .clock trivial _ rfl (by intro k' hne; rcases k' with a9 | i9 | i9 | i9 <;> first | rfl | (rcases a9 with _ | _ | _ | _ | _ | _ | _ | _ | _ | _ | _ | _ | _ | _ | _ | _ | _ | _ | _ | _ | _ | _ | _ | a9 <;> first | rfl | exact absurd rfl hne)), h.inj, h.lB, h.lH, h.lO, h.hg⟩
theorem RepC.s_clock_3 (h : RepC g ad x s ω) (v : Int32) : RepC g ad x (s.w_fo v) (wup ω (ad .clock) (.inr (6, List.set [.int s.mn, .int s.fc, .int s.fl, .int s.fo] 3 (.int v)))) := ⟨Rep_set h.c h.inj .clock trivial _ rfl (by intro k' hne; rcases k' with a9 | i9 | i9 | i9 <;> first | rfl | (rcases a9 with _ | _ | _ | _ | _ | _ | _ | _ | _ | _ | _ | _ | _ | _ | _ | _ | _ | _ | _ | _ | _ | _ | _ | a9 <;> first | rfl | exact absurd rfl hne)), h.inj, h.lB, h.lH, h.lO, h.hg⟩
theorem RepC.s_shield_1 (h : RepC g ad x s ω) (v : Int32) : RepC g ad x (s.w_press v) (wup ω (ad .shield) (.inr (11, List.set [.ref (ad .wears), .int s.press, .int (bI s.foam), .int s.pR, .int s.pU] 1 (.int v)))) := ⟨Rep_set h.c h.inj .shield trivial _ rfl (by intro k' hne; rcases k' with a9 | i9 | i9 | i9 <;> first | rfl | (rcases a9 with _ | _ | _ | _ | _ | _ | _ | _ | _ | _ | _ | _ | _ | _ | _ | _ | _ | _ | _ | _ | _ | _ | _ | a9 <;> first | rfl | exact absurd rfl hne)), h.inj, h.lB, h.lH, h.lO, h.hg⟩
theorem RepC.s_shield_2 (h : RepC g ad x s ω) (v : Bool) : RepC g ad x (s.w_foam v) (wup ω (ad .shield) (.inr (11, List.set [.ref (ad .wears), .int s.press, .int (bI s.foam), .int s.pR, .int s.pU] 2 (.int (bI v))))) := ⟨Rep_set h.c h.inj .shield trivial _ rfl (by intro k' hne; rcases k' with a9 | i9 | i9 | i9 <;> first | rfl | (rcases a9 with _ | _ | _ | _ | _ | _ | _ | _ | _ | _ | _ | _ | _ | _ | _ | _ | _ | _ | _ | _ | _ | _ | _ | a9 <;> first | rfl | exact absurd rfl hne)), h.inj, h.lB, h.lH, h.lO, h.hg⟩
theorem RepC.s_shield_3 (h : RepC g ad x s ω) (v : Int32) : RepC g ad x (s.w_pR v) (wup ω (ad .shield) (.inr (11, List.set [.ref (ad .wears), .int s.press, .int (bI s.foam), .int s.pR, .int s.pU] 3 (.int v)))) := ⟨Rep_set h.c h.inj .shield trivial _ rfl (by intro k' hne; rcases k' with a9 | i9 | i9 | i9 <;> first | rfl | (rcases a9 with _ | _ | _ | _ | _ | _ | _ | _ | _ | _ | _ | _ | _ | _ | _ | _ | _ | _ | _ | _ | _ | _ | _ | a9 <;> first | rfl | exact absurd rfl hne)), h.inj, h.lB, h.lH, h.lO, h.hg⟩
theorem RepC.s_shield_4 (h : RepC g ad x s ω) (v : Int32) : RepC g ad x (s.w_pU v) (wup ω (ad .shield) (.inr (11, List.set [.ref (ad .wears), .int s.press, .int (bI s.foam), .int s.pR, .int s.pU] 4 (.int v)))) := ⟨Rep_set h.c h.inj .shield trivial _ rfl (by intro k' hne; rcases k' with a9 | i9 | i9 | i9 <;> first | rfl | (rcases a9 with _ | _ | _ | _ | _ | _ | _ | _ | _ | _ | _ | _ | _ | _ | _ | _ | _ | _ | _ | _ | _ | _ | _ | a9 <;> first | rfl | exact absurd rfl hne)), h.inj, h.lB, h.lH, h.lO, h.hg⟩
theorem RepC.s_ring_5 (h : RepC g ad x s ω) {i : Nat} (hi : i < s.n) (v : Int32) : RepC g ad x (s.w_ring (upT s.ring i ((s.ring i).w_oR v))) (wup ω (ad (.ring i)) (.inr (10, List.set [.int (s.ring i).turn, .int (s.ring i).kind, .int (s.ring i).pR, .int (s.ring i).pU, .int (bI (s.ring i).fo), .int (s.ring i).oR, .int (s.ring i).oU, .int (s.ring i).mi, .int (s.ring i).en, .int (s.ring i).mo, .int (bI (s.ring i).no), .int (bI (s.ring i).it), .int (s.ring i).fi, .int (s.ring i).ff] 5 (.int v)))) := ⟨Rep_set h.c h.inj (.ring i) hi _ (by show (Sum.inr (10, rfs (upT s.ring i _ i)) : va_E) = _; rw [upT_s]; rfl) (by intro k' hne; rcases k' with a9 | i9 | i9 | i9 <;> first | rfl | (rcases a9 with _ | _ | _ | _ | _ | _ | _ | _ | _ | _ | _ | _ | _ | _ | _ | _ | _ | _ | _ | _ | _ | _ | _ | a9 <;> rfl) | exact congrArg (fun r => (Sum.inr (10, rfs r) : va_E)) (upT_n (fun z => hne (by rw [z])))), h.inj, h.lB, h.lH, h.lO, h.hg⟩
theorem RepC.s_ring_6 (h : RepC g ad x s ω) {i : Nat} (hi : i < s.n) (v : Int32) : RepC g ad x (s.w_ring (upT s.ring i ((s.ring i).w_oU v))) (wup ω (ad (.ring i)) (.inr (10, List.set [.int (s.ring i).turn, .int (s.ring i).kind, .int (s.ring i).pR, .int (s.ring i).pU, .int (bI (s.ring i).fo), .int (s.ring i).oR, .int (s.ring i).oU, .int (s.ring i).mi, .int (s.ring i).en, .int (s.ring i).mo, .int (bI (s.ring i).no), .int (bI (s.ring i).it), .int (s.ring i).fi, .int (s.ring i).ff] 6 (.int v)))) := ⟨Rep_set h.c h.inj (.ring i) hi _ (by show (Sum.inr (10, rfs (upT s.ring i _ i)) : va_E) = _; rw [upT_s]; rfl) (by intro k' hne; rcases k' with a9 | i9 | i9 | i9 <;> first | rfl | (rcases a9 with _ | _ | _ | _ | _ | _ | _ | _ | _ | _ | _ | _ | _ | _ | _ | _ | _ | _ | _ | _ | _ | _ | _ | a9 <;> rfl) | exact congrArg (fun r => (Sum.inr (10, rfs r) : va_E)) (upT_n (fun z => hne (by rw [z])))), h.inj, h.lB, h.lH, h.lO, h.hg⟩
theorem RepC.s_ring_7 (h : RepC g ad x s ω) {i : Nat} (hi : i < s.n) (v : Int32) : RepC g ad x (s.w_ring (upT s.ring i ((s.ring i).w_mi v))) (wup ω (ad (.ring i)) (.inr (10, List.set [.int (s.ring i).turn, .int (s.ring i).kind, .int (s.ring i).pR, .int (s.ring i).pU, .int (bI (s.ring i).fo), .int (s.ring i).oR, .int (s.ring i).oU, .int (s.ring i).mi, .int (s.ring i).en, .int (s.ring i).mo, .int (bI (s.ring i).no), .int (bI (s.ring i).it), .int (s.ring i).fi, .int (s.ring i).ff] 7 (.int v)))) := ⟨Rep_set h.c h.inj (.ring i) hi _ (by show (Sum.inr (10, rfs (upT s.ring i _ i)) : va_E) = _; rw [upT_s]; rfl) (by intro k' hne; rcases k' with a9 | i9 | i9 | i9 <;> first | rfl | (rcases a9 with _ | _ | _ | _ | _ | _ | _ | _ | _ | _ | _ | _ | _ | _ | _ | _ | _ | _ | _ | _ | _ | _ | _ | a9 <;> rfl) | exact congrArg (fun r => (Sum.inr (10, rfs r) : va_E)) (upT_n (fun z => hne (by rw [z])))), h.inj, h.lB, h.lH, h.lO, h.hg⟩
theorem RepC.s_ring_8 (h : RepC g ad x s ω) {i : Nat} (hi : i < s.n) (v : Int32) : RepC g ad x (s.w_ring (upT s.ring i ((s.ring i).w_en v))) (wup ω (ad (.ring i)) (.inr (10, List.set [.int (s.ring i).turn, .int (s.ring i).kind, .int (s.ring i).pR, .int (s.ring i).pU, .int (bI (s.ring i).fo), .int (s.ring i).oR, .int (s.ring i).oU, .int (s.ring i).mi, .int (s.ring i).en, .int (s.ring i).mo, .int (bI (s.ring i).no), .int (bI (s.ring i).it), .int (s.ring i).fi, .int (s.ring i).ff] 8 (.int v)))) := ⟨Rep_set h.c h.inj (.ring i) hi _ (by show (Sum.inr (10, rfs (upT s.ring i _ i)) : va_E) = _; rw [upT_s]; rfl) (by intro k' hne; rcases k' with a9 | i9 | i9 | i9 <;> first | rfl | (rcases a9 with _ | _ | _ | _ | _ | _ | _ | _ | _ | _ | _ | _ | _ | _ | _ | _ | _ | _ | _ | _ | _ | _ | _ | a9 <;> rfl) | exact congrArg (fun r => (Sum.inr (10, rfs r) : va_E)) (upT_n (fun z => hne (by rw [z])))), h.inj, h.lB, h.lH, h.lO, h.hg⟩
theorem RepC.s_ring_9 (h : RepC g ad x s ω) {i : Nat} (hi : i < s.n) (v : Int32) : RepC g ad x (s.w_ring (upT s.ring i ((s.ring i).w_mo v))) (wup ω (ad (.ring i)) (.inr (10, List.set [.int (s.ring i).turn, .int (s.ring i).kind, .int (s.ring i).pR, .int (s.ring i).pU, .int (bI (s.ring i).fo), .int (s.ring i).oR, .int (s.ring i).oU, .int (s.ring i).mi, .int (s.ring i).en, .int (s.ring i).mo, .int (bI (s.ring i).no), .int (bI (s.ring i).it), .int (s.ring i).fi, .int (s.ring i).ff] 9 (.int v)))) := ⟨Rep_set h.c h.inj (.ring i) hi _ (by show (Sum.inr (10, rfs (upT s.ring i _ i)) : va_E) = _; rw [upT_s]; rfl) (by intro k' hne; rcases k' with a9 | i9 | i9 | i9 <;> first | rfl | (rcases a9 with _ | _ | _ | _ | _ | _ | _ | _ | _ | _ | _ | _ | _ | _ | _ | _ | _ | _ | _ | _ | _ | _ | _ | a9 <;> rfl) | exact congrArg (fun r => (Sum.inr (10, rfs r) : va_E)) (upT_n (fun z => hne (by rw [z])))), h.inj, h.lB, h.lH, h.lO, h.hg⟩
theorem RepC.s_ring_10 (h : RepC g ad x s ω) {i : Nat} (hi : i < s.n) (v : Bool) : RepC g ad x (s.w_ring (upT s.ring i ((s.ring i).w_no v))) (wup ω (ad (.ring i)) (.inr (10, List.set [.int (s.ring i).turn, .int (s.ring i).kind, .int (s.ring i).pR, .int (s.ring i).pU, .int (bI (s.ring i).fo), .int (s.ring i).oR, .int (s.ring i).oU, .int (s.ring i).mi, .int (s.ring i).en, .int (s.ring i).mo, .int (bI (s.ring i).no), .int (bI (s.ring i).it), .int (s.ring i).fi, .int (s.ring i).ff] 10 (.int (bI v))))) := ⟨Rep_set h.c h.inj (.ring i) hi _ (by show (Sum.inr (10, rfs (upT s.ring i _ i)) : va_E) = _; rw [upT_s]; rfl) (by intro k' hne; rcases k' with a9 | i9 | i9 | i9 <;> first | rfl | (rcases a9 with _ | _ | _ | _ | _ | _ | _ | _ | _ | _ | _ | _ | _ | _ | _ | _ | _ | _ | _ | _ | _ | _ | _ | a9 <;> rfl) | exact congrArg (fun r => (Sum.inr (10, rfs r) : va_E)) (upT_n (fun z => hne (by rw [z])))), h.inj, h.lB, h.lH, h.lO, h.hg⟩
theorem RepC.s_ring_11 (h : RepC g ad x s ω) {i : Nat} (hi : i < s.n) (v : Bool) : RepC g ad x (s.w_ring (upT s.ring i ((s.ring i).w_it v))) (wup ω (ad (.ring i)) (.inr (10, List.set [.int (s.ring i).turn, .int (s.ring i).kind, .int (s.ring i).pR, .int (s.ring i).pU, .int (bI (s.ring i).fo), .int (s.ring i).oR, .int (s.ring i).oU, .int (s.ring i).mi, .int (s.ring i).en, .int (s.ring i).mo, .int (bI (s.ring i).no), .int (bI (s.ring i).it), .int (s.ring i).fi, .int (s.ring i).ff] 11 (.int (bI v))))) := ⟨Rep_set h.c h.inj (.ring i) hi _ (by show (Sum.inr (10, rfs (upT s.ring i _ i)) : va_E) = _; rw [upT_s]; rfl) (by intro k' hne; rcases k' with a9 | i9 | i9 | i9 <;> first | rfl | (rcases a9 with _ | _ | _ | _ | _ | _ | _ | _ | _ | _ | _ | _ | _ | _ | _ | _ | _ | _ | _ | _ | _ | _ | _ | a9 <;> rfl) | exact congrArg (fun r => (Sum.inr (10, rfs r) : va_E)) (upT_n (fun z => hne (by rw [z])))), h.inj, h.lB, h.lH, h.lO, h.hg⟩
theorem RepC.s_ring_12 (h : RepC g ad x s ω) {i : Nat} (hi : i < s.n) (v : Int32) : RepC g ad x (s.w_ring (upT s.ring i ((s.ring i).w_fi v))) (wup ω (ad (.ring i)) (.inr (10, List.set [.int (s.ring i).turn, .int (s.ring i).kind, .int (s.ring i).pR, .int (s.ring i).pU, .int (bI (s.ring i).fo), .int (s.ring i).oR, .int (s.ring i).oU, .int (s.ring i).mi, .int (s.ring i).en, .int (s.ring i).mo, .int (bI (s.ring i).no), .int (bI (s.ring i).it), .int (s.ring i).fi, .int (s.ring i).ff] 12 (.int v)))) := ⟨Rep_set h.c h.inj (.ring i) hi _ (by show (Sum.inr (10, rfs (upT s.ring i _ i)) : va_E) = _; rw [upT_s]; rfl) (by intro k' hne; rcases k' with a9 | i9 | i9 | i9 <;> first | rfl | (rcases a9 with _ | _ | _ | _ | _ | _ | _ | _ | _ | _ | _ | _ | _ | _ | _ | _ | _ | _ | _ | _ | _ | _ | _ | a9 <;> rfl) | exact congrArg (fun r => (Sum.inr (10, rfs r) : va_E)) (upT_n (fun z => hne (by rw [z])))), h.inj, h.lB, h.lH, h.lO, h.hg⟩
theorem RepC.s_ring_13 (h : RepC g ad x s ω) {i : Nat} (hi : i < s.n) (v : Int32) : RepC g ad x (s.w_ring (upT s.ring i ((s.ring i).w_ff v))) (wup ω (ad (.ring i)) (.inr (10, List.set [.int (s.ring i).turn, .int (s.ring i).kind, .int (s.ring i).pR, .int (s.ring i).pU, .int (bI (s.ring i).fo), .int (s.ring i).oR, .int (s.ring i).oU, .int (s.ring i).mi, .int (s.ring i).en, .int (s.ring i).mo, .int (bI (s.ring i).no), .int (bI (s.ring i).it), .int (s.ring i).fi, .int (s.ring i).ff] 13 (.int v)))) := ⟨Rep_set h.c h.inj (.ring i) hi _ (by show (Sum.inr (10, rfs (upT s.ring i _ i)) : va_E) = _; rw [upT_s]; rfl) (by intro k' hne; rcases k' with a9 | i9 | i9 | i9 <;> first | rfl | (rcases a9 with _ | _ | _ | _ | _ | _ | _ | _ | _ | _ | _ | _ | _ | _ | _ | _ | _ | _ | _ | _ | _ | _ | _ | a9 <;> rfl) | exact congrArg (fun r => (Sum.inr (10, rfs r) : va_E)) (upT_n (fun z => hne (by rw [z])))), h.inj, h.lB, h.lH, h.lO, h.hg⟩
theorem RepC.s_house_3 (h : RepC g ad x s ω) {i : Nat} (hi : i < s.nh) (v : Int32) : RepC g ad x (s.w_hs (upT s.hs i ((s.hs i).w_lf v))) (wup ω (ad (.house i)) (.inr (9, List.set [.int (s.hs i).fr, .int (s.hs i).to, .int (s.hs i).ofs, .int (s.hs i).lf, .int (s.hs i).ll, .int (bI (s.hs i).wr), .int (s.hs i).re] 3 (.int v)))) := ⟨Rep_set h.c h.inj (.house i) hi _ (by show (Sum.inr (9, hfs (upT s.hs i _ i)) : va_E) = _; rw [upT_s]; rfl) (by intro k' hne; rcases k' with a9 | i9 | i9 | i9 <;> first | rfl | (rcases a9 with _ | _ | _ | _ | _ | _ | _ | _ | _ | _ | _ | _ | _ | _ | _ | _ | _ | _ | _ | _ | _ | _ | _ | a9 <;> rfl) | exact congrArg (fun r => (Sum.inr (9, hfs r) : va_E)) (upT_n (fun z => hne (by rw [z])))), h.inj, h.lB, h.lH, h.lO, h.hg⟩
theorem RepC.s_house_4 (h : RepC g ad x s ω) {i : Nat} (hi : i < s.nh) (v : Int32) : RepC g ad x (s.w_hs (upT s.hs i ((s.hs i).w_ll v))) (wup ω (ad (.house i)) (.inr (9, List.set [.int (s.hs i).fr, .int (s.hs i).to, .int (s.hs i).ofs, .int (s.hs i).lf, .int (s.hs i).ll, .int (bI (s.hs i).wr), .int (s.hs i).re] 4 (.int v)))) := ⟨Rep_set h.c h.inj (.house i) hi _ (by show (Sum.inr (9, hfs (upT s.hs i _ i)) : va_E) = _; rw [upT_s]; rfl) (by intro k' hne; rcases k' with a9 | i9 | i9 | i9 <;> first | rfl | (rcases a9 with _ | _ | _ | _ | _ | _ | _ | _ | _ | _ | _ | _ | _ | _ | _ | _ | _ | _ | _ | _ | _ | _ | _ | a9 <;> rfl) | exact congrArg (fun r => (Sum.inr (9, hfs r) : va_E)) (upT_n (fun z => hne (by rw [z])))), h.inj, h.lB, h.lH, h.lO, h.hg⟩
theorem RepC.s_house_5 (h : RepC g ad x s ω) {i : Nat} (hi : i < s.nh) (v : Bool) : RepC g ad x (s.w_hs (upT s.hs i ((s.hs i).w_wr v))) (wup ω (ad (.house i)) (.inr (9, List.set [.int (s.hs i).fr, .int (s.hs i).to, .int (s.hs i).ofs, .int (s.hs i).lf, .int (s.hs i).ll, .int (bI (s.hs i).wr), .int (s.hs i).re] 5 (.int (bI v))))) := ⟨Rep_set h.c h.inj (.house i) hi _ (by show (Sum.inr (9, hfs (upT s.hs i _ i)) : va_E) = _; rw [upT_s]; rfl) (by intro k' hne; rcases k' with a9 | i9 | i9 | i9 <;> first | rfl | (rcases a9 with _ | _ | _ | _ | _ | _ | _ | _ | _ | _ | _ | _ | _ | _ | _ | _ | _ | _ | _ | _ | _ | _ | _ | a9 <;> rfl) | exact congrArg (fun r => (Sum.inr (9, hfs r) : va_E)) (upT_n (fun z => hne (by rw [z])))), h.inj, h.lB, h.lH, h.lO, h.hg⟩
theorem RepC.s_house_6 (h : RepC g ad x s ω) {i : Nat} (hi : i < s.nh) (v : Int32) : RepC g ad x (s.w_hs (upT s.hs i ((s.hs i).w_re v))) (wup ω (ad (.house i)) (.inr (9, List.set [.int (s.hs i).fr, .int (s.hs i).to, .int (s.hs i).ofs, .int (s.hs i).lf, .int (s.hs i).ll, .int (bI (s.hs i).wr), .int (s.hs i).re] 6 (.int v)))) := ⟨Rep_set h.c h.inj (.house i) hi _ (by show (Sum.inr (9, hfs (upT s.hs i _ i)) : va_E) = _; rw [upT_s]; rfl) (by intro k' hne; rcases k' with a9 | i9 | i9 | i9 <;> first | rfl | (rcases a9 with _ | _ | _ | _ | _ | _ | _ | _ | _ | _ | _ | _ | _ | _ | _ | _ | _ | _ | _ | _ | _ | _ | _ | a9 <;> rfl) | exact congrArg (fun r => (Sum.inr (9, hfs r) : va_E)) (upT_n (fun z => hne (by rw [z])))), h.inj, h.lB, h.lH, h.lO, h.hg⟩
theorem RepC.new (h : RepC g ad x s ω) {q : Nat} (hq : ω q = none) (e : va_E) : RepC g ad x s (wup ω q e) := ⟨fun k hk => (wup_n (w_ne (h.c k hk) hq)).trans (h.c k hk), h.inj, h.lB, h.lH, h.lO, h.hg⟩
theorem RepC.ne (h : RepC g ad x s ω) {q : Nat} (hq : ω q = none) (k : Ix) (hk : VC x s k) : ad k ≠ q := w_ne (h.c k hk) hq
/-- a cell beside the class's own may change -/
theorem RepC.by (h : RepC g ad x s ω) {q : Nat} (hq : ∀ k, VC x s k → ad k ≠ q) (e : va_E) : RepC g ad x s (wup ω q e) := ⟨fun k hk => (wup_n (hq k hk)).trans (h.c k hk), h.inj, h.lB, h.lH, h.lO, h.hg⟩
def ad_ring (ad : Ix → Nat) (n ed q : Nat) : Ix → Nat
  | .inl 20 => ed
  | .inl a => ad (.inl a)
  | .inr (.inl i) => if i = n then q else ad (.ring i)
  | .inr (.inr (.inl i)) => ad (.house i)
  | .inr (.inr (.inr i)) => ad (.bore i)
theorem ad_ring_l (ad : Ix → Nat) (n ed q : Nat) {a : Nat} (h : a ≠ 20) : ad_ring ad n ed q (.inl a) = ad (.inl a) := by
  rcases a with _ | _ | _ | _ | _ | _ | _ | _ | _ | _ | _ | _ | _ | _ | _ | _ | _ | _ | _ | _ | _ | _ | _ | a9 <;> first | rfl | exact absurd rfl h
theorem RepC.a_ring (h : RepC g ad x s ω) {q ed2 cap2 : Nat} {f2 : Nat → Option Nat} {r : Rg} {w : Wd} {mc : Int32} (hq : ω q = some (.inr (10, rfs r))) (hqn : ∀ k, VC x s k → ad k ≠ q) (a1 : cap2 ∈ caps) (a2 : s.n + 1 ≤ cap2) (a3 : ∀ i, i < s.n → f2 i = x.fB i) (a4 : f2 s.n = some q) (a5 : ω ed2 = none ∨ (ed2 = ad .rowB ∧ ¬ x.cB = 0)) (a6 : w (ad .built) = some (alE mc ed2 (s.n + 1))) (a7 : w ed2 = some (rwE g cap2 f2)) (a8 : ∀ b, b ≠ ad .built → b ≠ ed2 → w b = ω b) :
    RepC g (ad_ring ad s.n ed2 q) (x.a_B mc cap2 f2) (s.a_ring r) w := by
  have hed : ∀ k, VC x s k → k ≠ .rowB → ad k ≠ ed2 := by
    intro k hk hne he
    rcases a5 with a5 | a5
    · rw [← he, h.c k hk] at a5; cases a5
    · exact hne (h.inj k .rowB hk a5.2 (he.trans a5.1))
  have hqe : q ≠ ed2 := by
    intro he
    rcases a5 with a5 | a5
    · rw [← he, hq] at a5; cases a5
    · exact hqn .rowB a5.2 (a5.1.symm.trans he.symm)
  have hqa : q ≠ ad .built := fun he => hqn .built trivial he.symm
  have hold : ∀ k, VC x s k → k ≠ .rowB → k ≠ .built → w (ad k) = some (cellC g ad x s k) := fun k hk h1 h2 => (a8 _ (fun z9 => h2 (h.inj k .built hk trivial z9)) (hed k hk h1)).trans (h.c k hk)
  have hz2 : ¬ cap2 = 0 := by omega
  have hsk : ∀ a : Nat, a ≠ 20 → skV (x.a_B mc cap2 f2) a → skV x a := by
    intro a h1 h2
    rcases a with _ | _ | _ | _ | _ | _ | _ | _ | _ | _ | _ | _ | _ | _ | _ | _ | _ | _ | _ | _ | _ | _ | _ | a9 <;> first | exact h2 | exact absurd rfl h1
  refine ⟨?_, ?_, ⟨a1, a2, fun z9 => absurd z9 hz2, fun i hi => ?_⟩, h.lH, h.lO, h.hg⟩
  · intro k hk
    rcases k with a | i | i | i
    · by_cases ha : a = 8
      · subst ha; exact a6
      · by_cases hr : a = 20
        · subst hr; exact a7
        · rw [ad_ring_l ad _ _ _ hr, hold (.inl a) (hsk a hr hk) (fun z9 => hr (Sum.inl.inj z9)) (fun z9 => ha (Sum.inl.inj z9))]
          refine congrArg some ?_
          rcases a with _ | _ | _ | _ | _ | _ | _ | _ | _ | _ | _ | _ | _ | _ | _ | _ | _ | _ | _ | _ | _ | _ | _ | a9 <;> first | rfl | exact absurd rfl ha | exact absurd rfl hr
    · show w (if i = s.n then q else ad (.ring i)) = some (.inr (10, rfs (upT s.ring s.n r i)))
      have hk : i < s.n + 1 := hk
      by_cases hi : i = s.n
      · rw [if_pos hi, hi, upT_s]
        exact (a8 q hqa hqe).trans hq
      · rw [if_neg hi, upT_n hi]
        exact hold (.ring i) (show i < s.n by omega) (fun z9 => by cases z9) (fun z9 => by cases z9)
    · exact hold (.house i) hk (fun z9 => by cases z9) (fun z9 => by cases z9)
    · exact hold (.bore i) hk (fun z9 => by cases z9) (fun z9 => by cases z9)
  · have key : ∀ k, VC (x.a_B mc cap2 f2) (s.a_ring r) k → (k = .rowB ∧ ad_ring ad s.n ed2 q k = ed2) ∨ (k = .ring s.n ∧ ad_ring ad s.n ed2 q k = q) ∨ (k ≠ .rowB ∧ VC x s k ∧ ad_ring ad s.n ed2 q k = ad k) := by
      intro k hk
      rcases k with a | i | i | i
      · by_cases hr : a = 20
        · subst hr; exact Or.inl ⟨rfl, rfl⟩
        · exact Or.inr (Or.inr ⟨fun z9 => hr (Sum.inl.inj z9), hsk a hr hk, ad_ring_l ad _ _ _ hr⟩)
      · have hk : i < s.n + 1 := hk
        by_cases hi : i = s.n
        · exact Or.inr (Or.inl ⟨by rw [hi], if_pos hi⟩)
        · exact Or.inr (Or.inr ⟨(fun z9 => by cases z9), (show i < s.n by omega), if_neg hi⟩)
      · exact Or.inr (Or.inr ⟨(fun z9 => by cases z9), hk, rfl⟩)
      · exact Or.inr (Or.inr ⟨(fun z9 => by cases z9), hk, rfl⟩)
    intro k k' hk hk' he
    rcases key k hk with ⟨h1, h2⟩ | ⟨h1, h2⟩ | ⟨h0, h1, h2⟩ <;> rcases key k' hk' with ⟨h4, h5⟩ | ⟨h4, h5⟩ | ⟨h3, h4, h5⟩ <;> rw [h2, h5] at he
    · rw [h1, h4]
    · exact absurd he.symm hqe
    · exact absurd he.symm (hed k' h4 h3)
    · exact absurd he hqe
    · rw [h1, h4]
    · exact absurd he.symm (hqn k' h4)
    · exact absurd he (hed k h1 h0)
    · exact absurd he (hqn k h1)
    · exact h.inj k k' h1 h4 he
  · show f2 i = some (if i = s.n then q else ad (.ring i))
    have hi : i < s.n + 1 := hi
    by_cases h9 : i = s.n
    · rw [if_pos h9, h9, a4]
    · rw [if_neg h9, a3 i (by omega)]
      exact h.lB.2.2.2 i (by omega)
def ad_house (ad : Ix → Nat) (n ed q : Nat) : Ix → Nat
  | .inl 21 => ed
  | .inl a => ad (.inl a)
  | .inr (.inr (.inl i)) => if i = n then q else ad (.house i)
  | .inr (.inl i) => ad (.ring i)
  | .inr (.inr (.inr i)) => ad (.bore i)
theorem ad_house_l (ad : Ix → Nat) (n ed q : Nat) {a : Nat} (h : a ≠ 21) : ad_house ad n ed q (.inl a) = ad (.inl a) := by
  rcases a with _ | _ | _ | _ | _ | _ | _ | _ | _ | _ | _ | _ | _ | _ | _ | _ | _ | _ | _ | _ | _ | _ | _ | a9 <;> first | rfl | exact absurd rfl h
theorem RepC.a_house (h : RepC g ad x s ω) {q ed2 cap2 : Nat} {f2 : Nat → Option Nat} {r : Hs} {w : Wd} {mc : Int32} (hq : ω q = some (.inr (9, hfs r))) (hqn : ∀ k, VC x s k → ad k ≠ q) (a1 : cap2 ∈ caps) (a2 : s.nh + 1 ≤ cap2) (a3 : ∀ i, i < s.nh → f2 i = x.fH i) (a4 : f2 s.nh = some q) (a5 : ω ed2 = none ∨ (ed2 = ad .rowH ∧ ¬ x.cH = 0)) (a6 : w (ad .houses) = some (alE mc ed2 (s.nh + 1))) (a7 : w ed2 = some (rwE g cap2 f2)) (a8 : ∀ b, b ≠ ad .houses → b ≠ ed2 → w b = ω b) :
    RepC g (ad_house ad s.nh ed2 q) (x.a_H mc cap2 f2) (s.a_house r) w := by
  have hed : ∀ k, VC x s k → k ≠ .rowH → ad k ≠ ed2 := by
    intro k hk hne he
    rcases a5 with a5 | a5
    · rw [← he, h.c k hk] at a5; cases a5
    · exact hne (h.inj k .rowH hk a5.2 (he.trans a5.1))
  have hqe : q ≠ ed2 := by
    intro he
    rcases a5 with a5 | a5
    · rw [← he, hq] at a5; cases a5
    · exact hqn .rowH a5.2 (a5.1.symm.trans he.symm)
  have hqa : q ≠ ad .houses := fun he => hqn .houses trivial he.symm
  have hold : ∀ k, VC x s k → k ≠ .rowH → k ≠ .houses → w (ad k) = some (cellC g ad x s k) := fun k hk h1 h2 => (a8 _ (fun z9 => h2 (h.inj k .houses hk trivial z9)) (hed k hk h1)).trans (h.c k hk)
  have hz2 : ¬ cap2 = 0 := by omega
  have hsk : ∀ a : Nat, a ≠ 21 → skV (x.a_H mc cap2 f2) a → skV x a := by
    intro a h1 h2
    rcases a with _ | _ | _ | _ | _ | _ | _ | _ | _ | _ | _ | _ | _ | _ | _ | _ | _ | _ | _ | _ | _ | _ | _ | a9 <;> first | exact h2 | exact absurd rfl h1
  refine ⟨?_, ?_, h.lB, ⟨a1, a2, fun z9 => absurd z9 hz2, fun i hi => ?_⟩, h.lO, h.hg⟩
  · intro k hk
    rcases k with a | i | i | i
    · by_cases ha : a = 9
      · subst ha; exact a6
      · by_cases hr : a = 21
        · subst hr; exact a7
        · rw [ad_house_l ad _ _ _ hr, hold (.inl a) (hsk a hr hk) (fun z9 => hr (Sum.inl.inj z9)) (fun z9 => ha (Sum.inl.inj z9))]
          refine congrArg some ?_
          rcases a with _ | _ | _ | _ | _ | _ | _ | _ | _ | _ | _ | _ | _ | _ | _ | _ | _ | _ | _ | _ | _ | _ | _ | a9 <;> first | rfl | exact absurd rfl ha | exact absurd rfl hr
    · exact hold (.ring i) hk (fun z9 => by cases z9) (fun z9 => by cases z9)
    · show w (if i = s.nh then q else ad (.house i)) = some (.inr (9, hfs (upT s.hs s.nh r i)))
      have hk : i < s.nh + 1 := hk
      by_cases hi : i = s.nh
      · rw [if_pos hi, hi, upT_s]
        exact (a8 q hqa hqe).trans hq
      · rw [if_neg hi, upT_n hi]
        exact hold (.house i) (show i < s.nh by omega) (fun z9 => by cases z9) (fun z9 => by cases z9)
    · exact hold (.bore i) hk (fun z9 => by cases z9) (fun z9 => by cases z9)
  · have key : ∀ k, VC (x.a_H mc cap2 f2) (s.a_house r) k → (k = .rowH ∧ ad_house ad s.nh ed2 q k = ed2) ∨ (k = .house s.nh ∧ ad_house ad s.nh ed2 q k = q) ∨ (k ≠ .rowH ∧ VC x s k ∧ ad_house ad s.nh ed2 q k = ad k) := by
      intro k hk
      rcases k with a | i | i | i
      · by_cases hr : a = 21
        · subst hr; exact Or.inl ⟨rfl, rfl⟩
        · exact Or.inr (Or.inr ⟨fun z9 => hr (Sum.inl.inj z9), hsk a hr hk, ad_house_l ad _ _ _ hr⟩)
      · exact Or.inr (Or.inr ⟨(fun z9 => by cases z9), hk, rfl⟩)
      · have hk : i < s.nh + 1 := hk
        by_cases hi : i = s.nh
        · exact Or.inr (Or.inl ⟨by rw [hi], if_pos hi⟩)
        · exact Or.inr (Or.inr ⟨(fun z9 => by cases z9), (show i < s.nh by omega), if_neg hi⟩)
      · exact Or.inr (Or.inr ⟨(fun z9 => by cases z9), hk, rfl⟩)
    intro k k' hk hk' he
    rcases key k hk with ⟨h1, h2⟩ | ⟨h1, h2⟩ | ⟨h0, h1, h2⟩ <;> rcases key k' hk' with ⟨h4, h5⟩ | ⟨h4, h5⟩ | ⟨h3, h4, h5⟩ <;> rw [h2, h5] at he
    · rw [h1, h4]
    · exact absurd he.symm hqe
    · exact absurd he.symm (hed k' h4 h3)
    · exact absurd he hqe
    · rw [h1, h4]
    · exact absurd he.symm (hqn k' h4)
    · exact absurd he (hed k h1 h0)
    · exact absurd he (hqn k h1)
    · exact h.inj k k' h1 h4 he
  · show f2 i = some (if i = s.nh then q else ad (.house i))
    have hi : i < s.nh + 1 := hi
    by_cases h9 : i = s.nh
    · rw [if_pos h9, h9, a4]
    · rw [if_neg h9, a3 i (by omega)]
      exact h.lH.2.2.2 i (by omega)
def ad_bore (ad : Ix → Nat) (n ed q : Nat) : Ix → Nat
  | .inl 22 => ed
  | .inl a => ad (.inl a)
  | .inr (.inr (.inr i)) => if i = n then q else ad (.bore i)
  | .inr (.inl i) => ad (.ring i)
  | .inr (.inr (.inl i)) => ad (.house i)
theorem ad_bore_l (ad : Ix → Nat) (n ed q : Nat) {a : Nat} (h : a ≠ 22) : ad_bore ad n ed q (.inl a) = ad (.inl a) := by
  rcases a with _ | _ | _ | _ | _ | _ | _ | _ | _ | _ | _ | _ | _ | _ | _ | _ | _ | _ | _ | _ | _ | _ | _ | a9 <;> first | rfl | exact absurd rfl h
theorem RepC.a_bore (h : RepC g ad x s ω) {q ed2 cap2 : Nat} {f2 : Nat → Option Nat} {r : Bo} {w : Wd} {mc : Int32} (hq : ω q = some (.inr (5, bfs r))) (hqn : ∀ k, VC x s k → ad k ≠ q) (a1 : cap2 ∈ caps) (a2 : s.nb + 1 ≤ cap2) (a3 : ∀ i, i < s.nb → f2 i = x.fO i) (a4 : f2 s.nb = some q) (a5 : ω ed2 = none ∨ (ed2 = ad .rowO ∧ ¬ x.cO = 0)) (a6 : w (ad .bores) = some (alE mc ed2 (s.nb + 1))) (a7 : w ed2 = some (rwE g cap2 f2)) (a8 : ∀ b, b ≠ ad .bores → b ≠ ed2 → w b = ω b) :
    RepC g (ad_bore ad s.nb ed2 q) (x.a_O mc cap2 f2) (s.a_bore r) w := by
  have hed : ∀ k, VC x s k → k ≠ .rowO → ad k ≠ ed2 := by
    intro k hk hne he
    rcases a5 with a5 | a5
    · rw [← he, h.c k hk] at a5; cases a5
    · exact hne (h.inj k .rowO hk a5.2 (he.trans a5.1))
  have hqe : q ≠ ed2 := by
    intro he
    rcases a5 with a5 | a5
    · rw [← he, hq] at a5; cases a5
    · exact hqn .rowO a5.2 (a5.1.symm.trans he.symm)
  have hqa : q ≠ ad .bores := fun he => hqn .bores trivial he.symm
  have hold : ∀ k, VC x s k → k ≠ .rowO → k ≠ .bores → w (ad k) = some (cellC g ad x s k) := fun k hk h1 h2 => (a8 _ (fun z9 => h2 (h.inj k .bores hk trivial z9)) (hed k hk h1)).trans (h.c k hk)
  have hz2 : ¬ cap2 = 0 := by omega
  have hsk : ∀ a : Nat, a ≠ 22 → skV (x.a_O mc cap2 f2) a → skV x a := by
    intro a h1 h2
    rcases a with _ | _ | _ | _ | _ | _ | _ | _ | _ | _ | _ | _ | _ | _ | _ | _ | _ | _ | _ | _ | _ | _ | _ | a9 <;> first | exact h2 | exact absurd rfl h1
  refine ⟨?_, ?_, h.lB, h.lH, ⟨a1, a2, fun z9 => absurd z9 hz2, fun i hi => ?_⟩, h.hg⟩
  · intro k hk
    rcases k with a | i | i | i
    · by_cases ha : a = 10
      · subst ha; exact a6
      · by_cases hr : a = 22
        · subst hr; exact a7
        · rw [ad_bore_l ad _ _ _ hr, hold (.inl a) (hsk a hr hk) (fun z9 => hr (Sum.inl.inj z9)) (fun z9 => ha (Sum.inl.inj z9))]
          refine congrArg some ?_
          rcases a with _ | _ | _ | _ | _ | _ | _ | _ | _ | _ | _ | _ | _ | _ | _ | _ | _ | _ | _ | _ | _ | _ | _ | a9 <;> first | rfl | exact absurd rfl ha | exact absurd rfl hr
    · exact hold (.ring i) hk (fun z9 => by cases z9) (fun z9 => by cases z9)
    · exact hold (.house i) hk (fun z9 => by cases z9) (fun z9 => by cases z9)
    · show w (if i = s.nb then q else ad (.bore i)) = some (.inr (5, bfs (upT s.bo s.nb r i)))
      have hk : i < s.nb + 1 := hk
      by_cases hi : i = s.nb
      · rw [if_pos hi, hi, upT_s]
        exact (a8 q hqa hqe).trans hq
      · rw [if_neg hi, upT_n hi]
        exact hold (.bore i) (show i < s.nb by omega) (fun z9 => by cases z9) (fun z9 => by cases z9)
  · have key : ∀ k, VC (x.a_O mc cap2 f2) (s.a_bore r) k → (k = .rowO ∧ ad_bore ad s.nb ed2 q k = ed2) ∨ (k = .bore s.nb ∧ ad_bore ad s.nb ed2 q k = q) ∨ (k ≠ .rowO ∧ VC x s k ∧ ad_bore ad s.nb ed2 q k = ad k) := by
      intro k hk
      rcases k with a | i | i | i
      · by_cases hr : a = 22
        · subst hr; exact Or.inl ⟨rfl, rfl⟩
        · exact Or.inr (Or.inr ⟨fun z9 => hr (Sum.inl.inj z9), hsk a hr hk, ad_bore_l ad _ _ _ hr⟩)
      · exact Or.inr (Or.inr ⟨(fun z9 => by cases z9), hk, rfl⟩)
      · exact Or.inr (Or.inr ⟨(fun z9 => by cases z9), hk, rfl⟩)
      · have hk : i < s.nb + 1 := hk
        by_cases hi : i = s.nb
        · exact Or.inr (Or.inl ⟨by rw [hi], if_pos hi⟩)
        · exact Or.inr (Or.inr ⟨(fun z9 => by cases z9), (show i < s.nb by omega), if_neg hi⟩)
    intro k k' hk hk' he
    rcases key k hk with ⟨h1, h2⟩ | ⟨h1, h2⟩ | ⟨h0, h1, h2⟩ <;> rcases key k' hk' with ⟨h4, h5⟩ | ⟨h4, h5⟩ | ⟨h3, h4, h5⟩ <;> rw [h2, h5] at he
    · rw [h1, h4]
    · exact absurd he.symm hqe
    · exact absurd he.symm (hed k' h4 h3)
    · exact absurd he hqe
    · rw [h1, h4]
    · exact absurd he.symm (hqn k' h4)
    · exact absurd he (hed k h1 h0)
    · exact absurd he (hqn k h1)
    · exact h.inj k k' h1 h4 he
  · show f2 i = some (if i = s.nb then q else ad (.bore i))
    have hi : i < s.nb + 1 := hi
    by_cases h9 : i = s.nb
    · rw [if_pos h9, h9, a4]
    · rw [if_neg h9, a3 i (by omega)]
      exact h.lO.2.2.2 i (by omega)
theorem RepC.b_ring (h : RepC g ad x s ω) : s.n ≤ 163 := Nat.le_trans h.lB.2.1 (caps_le _ h.lB.1)
theorem RepC.b_house (h : RepC g ad x s ω) : s.nh ≤ 163 := Nat.le_trans h.lH.2.1 (caps_le _ h.lH.1)
theorem RepC.b_bore (h : RepC g ad x s ω) : s.nb ≤ 163 := Nat.le_trans h.lO.2.1 (caps_le _ h.lO.1)
theorem RepC.w_course (h : RepC g ad x s ω) (v0 v1 v2 v3 : Int32) : RepC g ad x (s.w_course v0 v1 v2 v3) (wup ω (ad .course) (.inr (8, [.int v0, .int v1, .int v2, .int v3]))) := ⟨Rep_set h.c h.inj .course trivial _ rfl (by intro k' hne; rcases k' with a9 | i9 | i9 | i9 <;> first | rfl | (rcases a9 with _ | _ | _ | _ | _ | _ | _ | _ | _ | _ | _ | _ | _ | _ | _ | _ | _ | _ | _ | _ | _ | _ | _ | a9 <;> first | rfl | exact absurd rfl hne)), h.inj, h.lB, h.lH, h.lO, h.hg⟩
theorem RepC.w_trial (h : RepC g ad x s ω) (v0 v1 v2 v3 : Int32) : RepC g ad (x.w_trial v0 v1 v2 v3) s (wup ω (ad .trial) (.inr (8, [.int v0, .int v1, .int v2, .int v3]))) := ⟨Rep_set h.c h.inj .trial trivial _ rfl (by intro k' hne; rcases k' with a9 | i9 | i9 | i9 <;> first | rfl | (rcases a9 with _ | _ | _ | _ | _ | _ | _ | _ | _ | _ | _ | _ | _ | _ | _ | _ | _ | _ | _ | _ | _ | _ | _ | a9 <;> first | rfl | exact absurd rfl hne)), h.inj, h.lB, h.lH, h.lO, h.hg⟩
end REPC
section WPR
variable {p : Program} {l : Launch} {e : Env} {R : Room} {s : State} {m : MethodId} {args : Array Value} {below : List Frame} {meth : Method} {c : Code} {nL : Nat} {g : Gl} {ω0 : Wd} {sz0 : Nat} {Q : State → Prop} {ω : Wd} {k n pc : Nat} {L : List (Nat × Value)} {rest : List Value} {ad : Ix → Nat} {x : Ex} {σ : St}
theorem WP.rc (h : RepC g ad x σ ω) (kk : RepC g ad x σ ω → WP p l e R s m args below meth c g ω0 sz0 Q nL ω k n pc L rest) : WP p l e R s m args below meth c g ω0 sz0 Q nL ω k n pc L rest := kk h
end WPR
theorem nI_ltc {n j : Nat} (hn : n < 2 ^ 31) (hj : j ≤ n) (h : ¬ nI n ≤ nI j) : j < n := by
  rcases Nat.lt_or_ge j n with h2 | h2
  · exact h2
  · exact absurd (nI_le h2 (by omega)) h
theorem nI_lec {n j : Nat} (hn : n < 2 ^ 31) (hj : j ≤ n) (h : nI n ≤ nI j) : j = n := by
  have := (nI_leI hn (by omega)).mp h
  omega
