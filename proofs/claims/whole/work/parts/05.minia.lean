/-! THE SMALL MACHINE: a memory of three functions and a list of shapes; what a method does is said over it (Wp, Cl); each instruction is a rule. -/
def TB : List Cond := lw_tbl.filter goodWord
theorem tb_in {w : Cond} (h : w ∈ lw_tbl) (hg : goodWord w = true) : w ∈ TB := List.mem_filter.mpr ⟨h, hg⟩
theorem tb_good {w : Cond} (h : w ∈ TB) : (w.onTables && w.keeps) = true ∨ ∃ ty, w = .arrayClass ty := good_of_word (List.mem_filter.mp h).2
theorem tb_t {w : Cond} (h : w ∈ tables_1) (hg : goodWord w = true) : w ∈ TB := tb_in (List.mem_append_right _ h) hg
theorem tb_s {w : Cond} (k : Nat) (h : (k2_sels lw_privs)[k]? = some w) (hg : goodWord w = true) : w ∈ TB := tb_in (List.mem_append_left _ (List.mem_of_getElem? h)) hg
theorem tb_1 {w : Cond} (k : Nat) (h : tables_1_1[k]? = some w) (hg : goodWord w = true) : w ∈ TB := tb_t (List.mem_append_left _ (List.mem_of_getElem? h)) hg
theorem tb_2 {w : Cond} (k : Nat) (h : tables_1_2[k]? = some w) (hg : goodWord w = true) : w ∈ TB := tb_t (List.mem_append_right _ (List.mem_append_left _ (List.mem_of_getElem? h))) hg
theorem tb_3 {w : Cond} (k : Nat) (h : tables_1_3[k]? = some w) (hg : goodWord w = true) : w ∈ TB := tb_t (List.mem_append_right _ (List.mem_append_right _ (List.mem_append_left _ (List.mem_of_getElem? h)))) hg
theorem tb_4 {w : Cond} (k : Nat) (h : tables_1_4[k]? = some w) (hg : goodWord w = true) : w ∈ TB := tb_t (List.mem_append_right _ (List.mem_append_right _ (List.mem_append_right _ (List.mem_append_left _ (List.mem_of_getElem? h))))) hg
theorem tb_5 {w : Cond} (k : Nat) (h : tables_1_5[k]? = some w) (hg : goodWord w = true) : w ∈ TB := tb_t (List.mem_append_right _ (List.mem_append_right _ (List.mem_append_right _ (List.mem_append_right _ (List.mem_append_left _ (List.mem_of_getElem? h)))))) hg
theorem tb_6 {w : Cond} (k : Nat) (h : tables_1_6[k]? = some w) (hg : goodWord w = true) : w ∈ TB := tb_t (List.mem_append_right _ (List.mem_append_right _ (List.mem_append_right _ (List.mem_append_right _ (List.mem_append_right _ (List.mem_append_left _ (List.mem_of_getElem? h))))))) hg
theorem tb_7 {w : Cond} (k : Nat) (h : tables_1_7[k]? = some w) (hg : goodWord w = true) : w ∈ TB := tb_t (List.mem_append_right _ (List.mem_append_right _ (List.mem_append_right _ (List.mem_append_right _ (List.mem_append_right _ (List.mem_append_right _ (List.mem_append_left _ (List.mem_of_getElem? h)))))))) hg
theorem tb_8 {w : Cond} (k : Nat) (h : tables_1_8[k]? = some w) (hg : goodWord w = true) : w ∈ TB := tb_t (List.mem_append_right _ (List.mem_append_right _ (List.mem_append_right _ (List.mem_append_right _ (List.mem_append_right _ (List.mem_append_right _ (List.mem_append_right _ (List.mem_of_getElem? h)))))))) hg
-- the memory
abbrev MM : Type := (Nat → Nat → Int32) × (Nat → Nat → Int64) × (Nat → Nat → Nat) × List (Nat × Nat)
def ldI (m : MM) (a k : Nat) : Int32 := m.1 a k
def ldL (m : MM) (a k : Nat) : Int64 := m.2.1 a k
def ldR (m : MM) (a k : Nat) : Nat := m.2.2.1 a k
def shp (m : MM) : List (Nat × Nat) := m.2.2.2
def up2 {α : Type} (f : Nat → Nat → α) (a k : Nat) (v : α) : Nat → Nat → α := fun b j => if b = a ∧ j = k then v else f b j
def stI (m : MM) (a k : Nat) (v : Int32) : MM := (up2 m.1 a k v, m.2)
def stL (m : MM) (a k : Nat) (v : Int64) : MM := (m.1, up2 m.2.1 a k v, m.2.2)
def stR (m : MM) (a k : Nat) (v : Nat) : MM := (m.1, m.2.1, up2 m.2.2.1 a k v, m.2.2.2)
def nx (m : MM) : Nat := (shp m).length + 4
def zr {α : Type} (f : Nat → Nat → α) (a : Nat) (z : α) : Nat → Nat → α := fun b j => if b = a then z else f b j
def mk (m : MM) (q : Nat × Nat) : MM := (zr m.1 (nx m) 0, zr m.2.1 (nx m) 0, zr m.2.2.1 (nx m) 0, shp m ++ [q])
/-- the shape at an address: 0 is null, 1 the script, 2 the String constant, 3 its bytes -/
def kdl (m : MM) (a : Nat) : Option (Nat × Nat) := match a with
  | 0 => none
  | 1 => none
  | 2 => none
  | 3 => none
  | a + 4 => (shp m)[a]?
-- the run's givens
abbrev GG : Type := Launch × Heap × va_G × (Nat → ClassId) × Nat × Nat × (Nat → Int32) × Nat × Nat × Option Nat
abbrev gl (g : GG) : Launch := g.1
abbrev gH (g : GG) : Heap := g.2.1
abbrev gD (g : GG) : va_G := g.2.2.1
abbrev gA (g : GG) : Nat → ClassId := g.2.2.2.1
abbrev gS (g : GG) : Nat := g.2.2.2.2.1
abbrev gL (g : GG) : Nat := g.2.2.2.2.2.1
abbrev gX (g : GG) : Nat → Int32 := g.2.2.2.2.2.2.1
abbrev gK (g : GG) : Nat := g.2.2.2.2.2.2.2.1
abbrev gV (g : GG) : Nat := g.2.2.2.2.2.2.2.2.1
abbrev gP (g : GG) : Option Nat := g.2.2.2.2.2.2.2.2.2
abbrev vwCl : List vw_C := [(RX0, TX0, 9), (RX1, TX1, 4), (RX2, TX2, 6), (RX3, TX3, 1), (RX4, TX4, 11), (RX5, TX5, 2), (RX6, TX6, 6), (RX7, TX7, 2), (RX8, TX8, 1), (RX9, TX9, 6), (RX10, TX10, 11), (RX11, TX11, 9), (RX12, TX12, 45)]
def gT (g : GG) : List (ClassId × FieldType) := [(gA g 0, .int), (gA g 1, .long), (gA g 2, .object RX1), (gA g 3, .object RX3), (gA g 4, .object RX10), (gA g 5, .array .int)]
def gF (g : GG) : Nat → Prop := fun q => (gH g).size ≤ q
-- fields
def nF : Nat → Nat := fun c => match c with
  | 0 => 9 | 1 => 4 | 2 => 6 | 3 => 1 | 4 => 11 | 5 => 2 | 6 => 6 | 7 => 2 | 8 => 1 | 9 => 6 | 10 => 11 | 11 => 9 | _ => 45
def tF : Nat → Nat → FieldType := fun c => match c with
  | 0 => tyX0 | 1 => tyX1 | 2 => tyX2 | 3 => tyX3 | 4 => tyX4 | 5 => tyX5 | 6 => tyX6 | 7 => tyX7 | 8 => tyX8 | 9 => tyX9 | 10 => tyX10 | 11 => tyX11 | _ => tyX12
def rf (g : GG) (r : List Nat) (a : Nat) : Option Nat := match a with
  | 0 => none
  | 1 => some (gS g)
  | 2 => some (gK g)
  | 3 => some (gV g)
  | a + 4 => some (r.getD a 0)
def cv (g : GG) (r : List Nat) (v : Value) : Value := match v with
  | .ref a => va_rf (rf g r a)
  | .float _ => va_rf (gP g)
  | v => v
def fv (g : GG) (r : List Nat) (m : MM) (a : Nat) (ty : FieldType) (k : Nat) : Value := match ty with
  | .long => .long (ldL m a k)
  | .object _ => va_rf (rf g r (ldR m a k))
  | .array _ => va_rf (rf g r (ldR m a k))
  | _ => .int (ldI m a k)
def ent (g : GG) (r : List Nat) (m : MM) (a : Nat) (q : Nat × Nat) : va_E :=
  if q.1 < 13 then .inr (q.1, (List.range (nF q.1)).map (fun k => fv g r m a (tF q.1 k) k))
  else if q.1 = 13 then .inl (gA g 0, q.2, .inl (fun j => ldI m a j))
  else if q.1 = 14 then .inl (gA g 1, q.2, .inr (.inl (fun j => ldL m a j)))
  else .inl (gA g (q.1 - 13), q.2, .inr (.inr (.inr (.inr (fun j => rf g r (ldR m a j))))))
def wsO (g : GG) (r : List Nat) (m : MM) : va_W := (List.range r.length).map (fun i => (r.getD i 0, ent g r m (i + 4) ((shp m).getD i (0, 0))))
def Mem (g : GG) (r : List Nat) (m : MM) (H : Heap) : Prop := va_P (gD g) vwCl (wsO g r m) H ∧ va_D (gF g) (wsO g r m) ∧ r.length = (shp m).length ∧ (∀ a k, ldR m a k < nx m)
def okv (n : Nat) (v : Value) : Prop := match v with
  | .ref a => a < n
  | .int _ => True
  | .long _ => True
  | .retAddr _ => True
  | .float _ => True
  | _ => False
def okl (n : Nat) (l : List Value) : Prop := ∀ v ∈ l, okv n v
-- what the start of the run gives, of a state whose tables are warmer
def nbk (w : Cond) : Bool := match w with
  | .fieldLinkNest .. => true
  | .methodLinkNest .. => true
  | .castable .. => true
  | .declares .. => true
  | _ => false
def NB : List Cond := lw_tbl.filter nbk
def NE : List String := ["java/lang/IllegalArgumentException", "java/util/NoSuchElementException", "java/lang/IndexOutOfBoundsException", "java/lang/IllegalStateException"]
def WORDS : String := "skin wave eddy sides foul off add more length speed wet volume beam draft fn wire side months least most root if or and not"
def WB : List Int32 := WORDS.toList.map (fun ch => Int32.ofNat ch.toNat)
def Kn (g : GG) (U : State) : Prop := va_K (gD g) vwCl (gT g) U ∧ va_X (gS g) (gL g) (gX g) U (gH g) ∧ gS g < (gH g).size ∧ gL g ≤ 3072 ∧ (gl g).stackTraces = false ∧
  vx_Zq Bundle.tN "UNASSIGNED_STACK" Bundle.steD (gF g) U (gH g) ∧ vx_Zq Bundle.tN "SUPPRESSED_SENTINEL" Bundle.listD (gF g) U (gH g) ∧ (∀ w ∈ NB, va_Nw w U) ∧ (∀ C ∈ NE, ∀ T ∈ NE, C ≠ T → va_Nc C T U) ∧
  vk_R RX4 136 WORDS (gK g) U ∧ vk_S 1 [WB.length] [WB] (fun _ => gK g) (fun _ => gV g) (gF g) U (gH g) ∧ va_Z "java/lang/String" "COMPACT_STRINGS" "Z" (.int 1) (gF g) U (gH g) ∧ (va_AO RX1 U ∧ va_AO RX3 U ∧ va_AO RX10 U ∧ va_AOA .int U ∧ va_Z "jdk/internal/util/Preconditions" "SIOOBE_FORMATTER" "Ljava/util/function/BiFunction;" (va_rf (gP g)) (gF g) U (gH g))
-- methods
abbrev MD : Type := MethodName × ByteArray × Nat × Option FieldType × Option (List (Nat × Nat × Nat × Nat))
def mdW (μ : MD) : Cond := match μ.2.2.2.2 with
  | none => .code μ.1 μ.2.1 μ.2.2.1 μ.2.2.2.1
  | some hh => .codeWith μ.1 μ.2.1 μ.2.2.1 μ.2.2.2.1 hh
def mdS (μ : MD) : List Cond := mdW μ :: TB
abbrev Out : Type := (Option Value ⊕ String) × MM
def QcO (g : GG) (r : List Nat) (Q : Out → Prop) : Array Value → State → Outcome → State → Prop := fun _ st o t =>
  ∃ (r' : List Nat) (v : Option Value) (m' : MM), o = .returned (v.map (cv g r')) ∧ Q (.inl v, m') ∧ Mem g r' m' t.heap ∧ va_S (gF g) (gH g) t.heap [] ∧ r <+: r' ∧ okl (nx m') v.toList ∧ st.heap.size ≤ t.heap.size
def XcO (g : GG) (r : List Nat) (Q : Out → Prop) : String → State → State → Prop := fun E st t =>
  ∃ (r' : List Nat) (m' : MM), Q (.inr E, m') ∧ Mem g r' m' t.heap ∧ va_S (gF g) (gH g) t.heap [] ∧ r <+: r' ∧ st.heap.size ≤ t.heap.size
def PcO (g : GG) (r : List Nat) (as : List Value) (m : MM) : Array Value → State → Prop := fun av U =>
  av = (as.map (cv g r)).toArray ∧ Mem g r m U.heap ∧ va_S (gF g) (gH g) U.heap [] ∧ Kn g U ∧ okl (nx m) as
def rmD (d c n : Nat) : Room := { frames := d, cells := c, slots := n, locals := 64 * d }
/-- a call of a method, from a memory: it ends, and the end is as Q says; d frames deep at most, c cells of n slots at most are made -/
def Cl (g : GG) (d c n : Nat) (μ : MD) (as : List Value) (m : MM) (Q : Out → Prop) : Prop :=
  ∀ r : List Nat, vx_Met (gl g) μ.1 (mdS μ) (rmD d c n) (PcO g r as m) (QcO g r Q) (XcO g r Q) c n (gF g)
def Ctx (g : GG) (μ : MD) (d : Nat) (p : Program) (e : Env) (R : Room) (s : State) (mid : MethodId) (args : Array Value) (meth : Method) (c : Code) : Prop :=
  p.tables.exec = Jvm.exec ∧ c.code = μ.2.1 ∧ meth.sig.returnType = μ.2.2.2.1 ∧ c.maxLocals = μ.2.2.1 ∧ s.vm.findClass μ.1.cls = some mid.cls ∧ (∀ w ∈ TB, w.before args s = true) ∧ meth.locks = false ∧ meth.name = μ.1.name ∧
  c.exceptionTable.toList = tableOf (μ.2.2.2.2.getD []) ∧ d ≤ R.frames ∧ 64 * d ≤ R.locals ∧ Kn g s ∧ va_S (gF g) (gH g) s.heap []
def lvF (g : GG) (r : List Nat) : Nat → List Value → List (Nat × Value)
  | _, [] => []
  | i, v :: t => match v with
    | .retAddr _ => lvF g r (i + 1) t
    | v => (i, cv g r v) :: lvF g r (i + 1) t
/-- where a walk of a method stands -/
def Sit (g : GG) (μ : MD) (d c n : Nat) (ls st : List Value) (m : MM) (p : Program) (e : Env) (R : Room) (s : State) (mid : MethodId) (args : Array Value) (meth : Method) (cd : Code) (r0 r : List Nat) (H : Heap) (locs : List Loc) (cells slots : Nat) (la : Array Slot) : Prop :=
  Ctx g μ d p e R s mid args meth cd ∧ Mem g r m H ∧ va_S (gF g) s.heap H locs ∧ r0 <+: r ∧ okl (nx m) ls ∧ okl (nx m) st ∧ lv_has la μ.2.2.1 (lvF g r 0 ls) ∧ cells + c ≤ R.cells ∧ slots + n ≤ R.slots
/-- from here the method ends as Q says -/
def Wp (g : GG) (μ : MD) (d c n : Nat) (pc : Nat) (ls st : List Value) (m : MM) (Q : Out → Prop) : Prop :=
  ∀ (p : Program) (e : Env) (R : Room) (s : State) (mid : MethodId) (args : Array Value) (below : List Frame) (meth : Method) (cd : Code) (r0 r : List Nat) (H : Heap) (locs : List Loc) (cells slots : Nat) (la : Array Slot),
    Sit g μ d c n ls st m p e R s mid args meth cd r0 r H locs cells slots la →
    W p (gl g) e R s mid args below meth cd H locs cells slots (vx_MQ below (QcO g r0 Q) (XcO g r0 Q) args s R.cells R.slots (gF g)) (F0 mid pc la (st.map (cv g r)))
