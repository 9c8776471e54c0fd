/-! ===== every row of the code is as the bytes and the tables have it ===== -/
def ni_kc : List (Nat × Nat × Value × Nat) := [(9, 265, .int 1431655765, 618), (9, 266, .int 858993459, 619), (9, 267, .int 252645135, 620), (2, 94, .int 1000000, 653), (6, 239, .int 1000000, 688), (5, 91, .int 1103515245, 754), (7, 189, .int 1000000, 1143), (7, 194, .long 100, 1144), (7, 220, .int 1103515245, 1213), (8, 18, .long 4294967295, 1266)]
def ni_kcc (e : Nat × Nat × Value × Nat) : Bool := match e.2.2.1 with
  | .int x => decide (lw_tbl[e.2.2.2]? = some (Cond.constant (ni_cn e.1) e.2.1 x))
  | .long x => decide (lw_tbl[e.2.2.2]? = some (Cond.constantLong (ni_cn e.1) e.2.1 x))
  | _ => false
set_option maxRecDepth 100000 in
theorem ni_kc_ok : ni_kc.all ni_kcc = true := by decide +kernel
def ni_ks : List (Nat × String × Nat) := [(116, "hand", 1010), (118, "stone", 1011), (120, "up", 1012), (122, "stage", 1013), (124, "turn", 1014)]
/-- statics that are read: own class, entry, of which class, name, kind, 1: as a nest mate, the word's place, what it holds -/
def ni_st : List (Nat × Nat × String × String × String × Nat × Nat × Value) := [(0, 32, "FiveStones$Acts", "BODIES", "[I", 0, 810, .ref 1002), (0, 39, "FiveStones", "ABOVE", "[I", 1, 0, .ref 1001), (1, 30, "FiveStones", "ABOVE", "[I", 1, 0, .ref 1001), (10, 38, "java/lang/String", "COMPACT_STRINGS", "Z", 0, 473, .int 1), (10, 1053, "jdk/internal/util/Preconditions", "SIOOBE_FORMATTER", "Ljava/util/function/BiFunction;", 0, 493, .retAddr 7)]
def ni_stc (e : Nat × Nat × String × String × String × Nat × Nat × Value) : Bool := Nat.beq e.2.2.2.2.2.1 1 || decide (lw_tbl[e.2.2.2.2.2.2.1]? = some (Cond.fieldLink (ni_cn e.1) e.2.1 e.2.2.1 e.2.2.2.1 e.2.2.2.2.1))
set_option maxRecDepth 100000 in
theorem ni_st_ok : ni_st.all ni_stc = true := by decide +kernel
/-- the words of nest mates -/
def ni_nest : List Cond := [Cond.methodLinkNest "FiveStones" 30 ⟨"FiveStones$Mind", "<init>", "()V"⟩ "FiveStones", Cond.methodLinkNest "FiveStones" 37 ⟨"FiveStones$Acts", "<init>", "()V"⟩ "FiveStones", Cond.methodLinkNest "FiveStones" 44 ⟨"FiveStones$Reader", "<init>", "()V"⟩ "FiveStones", Cond.methodLinkNest "FiveStones" 61 ⟨"FiveStones$Shelf", "<init>", "()V"⟩ "FiveStones", Cond.methodLinkNest "FiveStones$Table" 68 ⟨"FiveStones", "isWithin", "(II)Z"⟩ "FiveStones", Cond.methodLinkNest "FiveStones$Table" 72 ⟨"FiveStones", "farOf", "(II)I"⟩ "FiveStones", Cond.methodLinkNest "FiveStones$Mind" 44 ⟨"FiveStones", "isWithin", "(II)Z"⟩ "FiveStones", Cond.methodLinkNest "FiveStones$Mind" 58 ⟨"FiveStones", "farOf", "(II)I"⟩ "FiveStones", Cond.methodLinkNest "FiveStones$Mind" 112 ⟨"FiveStones", "isHeight", "(I)Z"⟩ "FiveStones", Cond.fieldLinkNest "FiveStones$Hand" 30 "FiveStones" "ABOVE" "[I" "FiveStones", Cond.fieldLinkNest "FiveStones$Acts" 39 "FiveStones" "ABOVE" "[I" "FiveStones"]
set_option maxRecDepth 100000 in
theorem ni_nest_in : ∀ w ∈ ni_nest, w ∈ lw_tbl := by decide +kernel
theorem ni_mn_in : ∀ e ∈ ni_mn, Cond.methodLinkNest (ni_cn e.1) e.2.1 (ni_mt e.2.2).1 "FiveStones" ∈ ni_nest := by decide +kernel
theorem ni_st_in : ∀ e ∈ ni_st, e.2.2.2.2.2.1 = 1 → Cond.fieldLinkNest (ni_cn e.1) e.2.1 e.2.2.1 e.2.2.2.1 e.2.2.2.2.1 "FiveStones" ∈ ni_nest := by decide +kernel
def ni_nw : List (Nat × Nat × Nat × Nat × Nat × Nat) := [(5, 15, 1, 97, 102, 68), (6, 15, 5, 91, 92, 66), (6, 28, 2, 166, 167, 69), (6, 35, 0, 199, 200, 70), (6, 42, 3, 213, 214, 71), (6, 9, 4, 89, 230, 72), (8, 7, 6, 81, 82, 65), (8, 10, 7, 841, 842, 73)]
def ni_nwc (e : Nat × Nat × Nat × Nat × Nat × Nat) : Bool := match vwCl[e.2.2.1]? with
  | some (C, _, N) => decide (lw_tbl[e.2.2.2.1]? = some (Cond.classLink (ni_cn e.1) e.2.1 C)) && decide (lw_tbl[e.2.2.2.2.1]? = some (Cond.instantiable C N)) && decide (lw_tbl[e.2.2.2.2.2]? = some (Cond.initialized C)) && decide ((ni_dfs e.2.2.1).length = N)
  | none => false
set_option maxRecDepth 100000 in
theorem ni_nw_ok : ni_nw.all ni_nwc = true := by decide +kernel
def ni_ec (t : Nat) : String := bif Nat.beq t 2 then "FiveStones$Shelf" else "FiveStones$Hand"
def ni_aw : List (Nat × Nat × Nat × Nat) := [(5, 15, 3, 97), (6, 9, 2, 89)]
def ni_awc (e : Nat × Nat × Nat × Nat) : Bool := decide (lw_tbl[e.2.2.2]? = some (Cond.classLink (ni_cn e.1) e.2.1 (ni_ec e.2.2.1)))
set_option maxRecDepth 100000 in
theorem ni_aw_ok : ni_aw.all ni_awc = true := by decide +kernel
/-- calls of Object.<init>, arraycopy and Math: own class, entry, number, place -/
def ni_sp : List (Nat × Nat × Nat × Nat) := [(6, 1, 901, 86), (5, 3, 901, 96), (1, 3, 901, 106), (2, 3, 901, 171), (0, 3, 901, 204), (3, 3, 901, 218), (4, 3, 901, 234), (6, 97, 900, 330), (5, 43, 900, 436), (3, 103, 903, 517), (6, 312, 902, 587), (2, 62, 904, 600), (2, 87, 903, 627), (6, 231, 903, 678), (6, 246, 904, 701), (5, 76, 903, 710), (5, 88, 904, 724), (7, 1, 901, 846)]
def ni_spn (a : Nat) : MethodName := bif Nat.beq a 900 then arraycopyName else bif Nat.beq a 901 then Lib.objectInit else bif Nat.beq a 902 then Lib.Math.abs.name else bif Nat.beq a 903 then Lib.Math.max.name else Lib.Math.min.name
def ni_spc (e : Nat × Nat × Nat × Nat) : Bool := decide (lw_tbl[e.2.2.2]? = some (Cond.methodLink (ni_cn e.1) e.2.1 (ni_spn e.2.2.1)))
set_option maxRecDepth 100000 in
theorem ni_sp_ok : ni_sp.all ni_spc = true := by decide +kernel
def ni_own (m : Nat) : Nat := (ni_mt m).2.2.2.2
def ni_isf (own i a b : Nat) : Bool := ni_fl.any fun q => Nat.beq q.1 own && (Nat.beq q.2.1 i && (Nat.beq q.2.2.1 a && Nat.beq q.2.2.2.1 b))
def ni_isl (own i a : Nat) : Bool := ni_ml.any fun q => Nat.beq q.1 own && (Nat.beq q.2.1 i && Nat.beq q.2.2.1 a)
def ni_isn (own i a : Nat) : Bool := ni_mn.any fun q => Nat.beq q.1 own && (Nat.beq q.2.1 i && Nat.beq q.2.2 a)
def ni_ism (a k np : Nat) : Bool := ni_mf.any fun q => Nat.beq q.1 a && (Nat.beq q.2.1 k && Nat.beq q.2.2.2.2.2.2 np)
def ni_isk (own i : Nat) (v : Value) : Bool := ni_kc.any fun q => Nat.beq q.1 own && (Nat.beq q.2.1 i && decide (q.2.2.1 = v))
def ni_iss (i : Nat) (v : Value) : Bool := ni_ks.any fun q => Nat.beq q.1 i && decide (Value.ref q.2.2 = v)
def ni_ist (own i : Nat) (v : Value) : Bool := ni_st.any fun q => Nat.beq q.1 own && (Nat.beq q.2.1 i && decide (q.2.2.2.2.2.2.2 = v))
def ni_isw (own i a : Nat) : Bool := ni_nw.any fun q => Nat.beq q.1 own && (Nat.beq q.2.1 i && Nat.beq q.2.2.1 a)
def ni_isa (own i a : Nat) : Bool := ni_aw.any fun q => Nat.beq q.1 own && (Nat.beq q.2.1 i && Nat.beq q.2.2.1 a)
def ni_isp (own i a : Nat) : Bool := ni_sp.any fun q => Nat.beq q.1 own && (Nat.beq q.2.1 i && Nat.beq q.2.2.1 a)
def ni_vi (v : Value) : Bool := match v with
  | .int _ => true
  | _ => false
def ni_vl (v : Value) : Bool := match v with
  | .long _ => true
  | _ => false
/-- fields: their kinds, and which may be put -/
def ni_fin (m a b : Nat) (ty : FieldType) : Bool := match vwCl[a]? with
  | some (_, T, _) => decide (parseFieldDescriptor (T b).2.2.1 = some ty) && (!(T b).2.2.2 || (Nat.beq (ni_own m) a && decide ((ni_mt m).1.name = "<init>")))
  | none => false
def ni_lk (m : Nat) (ins : Instr) (a b : Nat) (v : Value) (ty : FieldType) : Bool := match ins with
  | .getfield i => bif Nat.beq a 100 then Nat.beq (ni_own m) 10 && ((Nat.beq i 9 && Nat.beq b 0) || (Nat.beq i 15 && Nat.beq b 1)) else ni_isf (ni_own m) i a b
  | .putfield i => ni_isf (ni_own m) i a b && ni_fin m a b ty
  | .getstatic i => ni_ist (ni_own m) i v
  | .ldc i => (ni_isk (ni_own m) i v && ni_vi v) || (Nat.beq (ni_own m) 3 && ni_iss i v)
  | .ldc_w i => ni_isk (ni_own m) i v && ni_vi v
  | .ldc2_w i => ni_isk (ni_own m) i v && ni_vl v
  | .new i => ni_isw (ni_own m) i a
  | .anewarray i => ni_isa (ni_own m) i a
  | .invokestatic i => bif Nat.ble 900 a then Nat.beq a 999 || ni_isp (ni_own m) i a else (ni_isl (ni_own m) i a || ni_isn (ni_own m) i a) && ni_ism a 0 b
  | .invokespecial i => bif Nat.ble 900 a then Nat.beq a 999 || ni_isp (ni_own m) i a else (ni_isl (ni_own m) i a || ni_isn (ni_own m) i a) && ni_ism a 2 b
  | .invokevirtual i => bif Nat.ble 900 a then Nat.beq a 999 else ni_isl (ni_own m) i a && ni_ism a 1 b
  | _ => true
def ni_rv (m : Nat) (e : Nat × ni_W) : Bool := decide (decode (ni_mt m).2.1 e.1 = .ok (e.2.1, e.2.2.1)) && ((Nat.beq (ni_ln e.2.1) 0 || Nat.beq (ni_ln e.2.1) e.2.2.1) && (ni_tgt e.2.1 e.1 e.2.2.2.1 && ni_lk m e.2.1 e.2.2.2.1 e.2.2.2.2.1 e.2.2.2.2.2.1 e.2.2.2.2.2.2))
