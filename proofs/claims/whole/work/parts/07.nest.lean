/-- the words of nest mates that this program uses -/
def zn_w : List Cond := [
  .methodLinkNest "RecordSystem" 11 ⟨"RecordSystem$Disk", "<init>", "()V"⟩ "RecordSystem",
  .fieldLinkNest "RecordSystem$Directory" 22 "RecordSystem$Disk" "bytes" "[I" "RecordSystem",
  .fieldLinkNest "RecordSystem" 159 "RecordSystem$Disk" "bytes" "[I" "RecordSystem",
  .fieldLinkNest "RecordSystem" 168 "RecordSystem$Disk" "writesDone" "I" "RecordSystem",
  .methodLinkNest "RecordSystem" 18 ⟨"RecordSystem$Directory", "<init>", "(LRecordSystem$Disk;)V"⟩ "RecordSystem",
  .fieldLinkNest "RecordSystem" 50 "RecordSystem$Directory" "user" "I" "RecordSystem",
  .methodLinkNest "RecordSystem" 27 ⟨"RecordSystem$BlockMap", "<init>", "()V"⟩ "RecordSystem",
  .methodLinkNest "RecordSystem" 38 ⟨"RecordSystem$Control", "<init>", "()V"⟩ "RecordSystem",
  .fieldLinkNest "RecordSystem" 73 "RecordSystem$Control" "wanted" "[I" "RecordSystem",
  .fieldLinkNest "RecordSystem$Directory" 35 "RecordSystem$Control" "wanted" "[I" "RecordSystem",
  .fieldLinkNest "RecordSystem$Directory" 75 "RecordSystem$Control" "blocks" "[I" "RecordSystem",
  .fieldLinkNest "RecordSystem" 153 "RecordSystem$Control" "blocks" "[I" "RecordSystem",
  .fieldLinkNest "RecordSystem" 54 "RecordSystem$Control" "isOpen" "Z" "RecordSystem",
  .fieldLinkNest "RecordSystem" 88 "RecordSystem$Control" "isReadOnly" "Z" "RecordSystem",
  .fieldLinkNest "RecordSystem$Directory" 66 "RecordSystem$Control" "stretch" "I" "RecordSystem",
  .fieldLinkNest "RecordSystem" 147 "RecordSystem$Control" "stretch" "I" "RecordSystem",
  .fieldLinkNest "RecordSystem$Directory" 69 "RecordSystem$Control" "count" "I" "RecordSystem",
  .fieldLinkNest "RecordSystem" 150 "RecordSystem$Control" "count" "I" "RecordSystem",
  .fieldLinkNest "RecordSystem" 141 "RecordSystem$Control" "place" "I" "RecordSystem",
  .fieldLinkNest "RecordSystem$Directory" 72 "RecordSystem$Control" "place" "I" "RecordSystem",
  .methodLinkNest "RecordSystem" 47 ⟨"RecordSystem$Disk", "lastForEver", "()V"⟩ "RecordSystem",
  .methodLinkNest "RecordSystem" 177 ⟨"RecordSystem$BlockMap", "clear", "()V"⟩ "RecordSystem",
  .methodLinkNest "RecordSystem" 180 ⟨"RecordSystem$Directory", "isFree", "(I)Z"⟩ "RecordSystem",
  .methodLinkNest "RecordSystem" 186 ⟨"RecordSystem$Directory", "blockNumber", "(II)I"⟩ "RecordSystem",
  .methodLinkNest "RecordSystem" 190 ⟨"RecordSystem$BlockMap", "take", "(I)V"⟩ "RecordSystem",
  .methodLinkNest "RecordSystem" 61 ⟨"RecordSystem$BlockMap", "untaken", "()I"⟩ "RecordSystem",
  .methodLinkNest "RecordSystem" 65 ⟨"RecordSystem$Disk", "lastFor", "(I)V"⟩ "RecordSystem",
  .methodLinkNest "RecordSystem" 76 ⟨"RecordSystem$Directory", "firstOfStretch", "(LRecordSystem$Control;I)I"⟩ "RecordSystem",
  .methodLinkNest "RecordSystem" 80 ⟨"RecordSystem$Directory", "fetchStretch", "(ILRecordSystem$Control;)V"⟩ "RecordSystem",
  .methodLinkNest "RecordSystem" 84 ⟨"RecordSystem$Directory", "isReadOnly", "(I)Z"⟩ "RecordSystem",
  .methodLinkNest "RecordSystem" 90 ⟨"RecordSystem$Directory", "firstFree", "()I"⟩ "RecordSystem",
  .methodLinkNest "RecordSystem" 196 ⟨"RecordSystem$Control", "beginStretch", "(I)V"⟩ "RecordSystem",
  .methodLinkNest "RecordSystem" 199 ⟨"RecordSystem$Directory", "makeEntry", "(ILRecordSystem$Control;)Z"⟩ "RecordSystem",
  .methodLinkNest "RecordSystem$Directory" 85 ⟨"RecordSystem$Disk", "putRow", "(I[I)Z"⟩ "RecordSystem",
  .methodLinkNest "RecordSystem" 202 ⟨"RecordSystem$Directory", "keepStretch", "(ILRecordSystem$Control;)Z"⟩ "RecordSystem",
  .methodLinkNest "RecordSystem$Directory" 81 ⟨"RecordSystem$Disk", "getRow", "(I[I)V"⟩ "RecordSystem",
  .methodLinkNest "RecordSystem" 101 ⟨"RecordSystem$Directory", "hasReadOnly", "(LRecordSystem$Control;)Z"⟩ "RecordSystem",
  .methodLinkNest "RecordSystem" 105 ⟨"RecordSystem$Directory", "fits", "(ILRecordSystem$Control;)Z"⟩ "RecordSystem",
  .methodLinkNest "RecordSystem" 193 ⟨"RecordSystem$BlockMap", "giveBack", "(I)V"⟩ "RecordSystem",
  .methodLinkNest "RecordSystem" 112 ⟨"RecordSystem$Directory", "freeEntry", "(I)Z"⟩ "RecordSystem",
  .methodLinkNest "RecordSystem" 119 ⟨"RecordSystem$Directory", "nameEntry", "(ILRecordSystem$Control;)Z"⟩ "RecordSystem",
  .methodLinkNest "RecordSystem" 122 ⟨"RecordSystem$Directory", "guardEntry", "(IZ)Z"⟩ "RecordSystem",
  .methodLinkNest "RecordSystem" 126 ⟨"RecordSystem$Directory", "firstFrom", "(LRecordSystem$Control;I)I"⟩ "RecordSystem",
  .methodLinkNest "RecordSystem" 213 ⟨"RecordSystem$BlockMap", "giveLeast", "()I"⟩ "RecordSystem",
  .methodLinkNest "RecordSystem" 216 ⟨"RecordSystem$Control", "recordAt", "(I)I"⟩ "RecordSystem",
  .methodLinkNest "RecordSystem" 219 ⟨"RecordSystem$Disk", "putRow", "(I[I)Z"⟩ "RecordSystem",
  .methodLinkNest "RecordSystem" 228 ⟨"RecordSystem$Disk", "getRow", "(I[I)V"⟩ "RecordSystem",
  .methodLinkNest "RecordSystem" 144 ⟨"RecordSystem$Directory", "greatestEnd", "(LRecordSystem$Control;)I"⟩ "RecordSystem",
  .methodLinkNest "RecordSystem" 162 ⟨"RecordSystem$Directory", "blocksToldTwice", "()I"⟩ "RecordSystem",
  .methodLinkNest "RecordSystem" 165 ⟨"RecordSystem$Directory", "freeEntries", "()I"⟩ "RecordSystem"]
def zn_is (w : Cond) : Bool := match w with
  | .fieldLinkNest _ _ _ _ _ _ => true
  | .methodLinkNest _ _ _ _ => true
  | _ => false
theorem zn_all : ∀ w ∈ zn_w, zn_is w = true := by decide +kernel
theorem zn_tbl : ∀ w ∈ zn_w, w.onTables = true := by decide +kernel
def zn (U : State) : Prop := ∀ w ∈ zn_w, va_Nw w U
theorem zn.at {U : State} (h : zn U) (k : Nat) {w : Cond} (hw : zn_w[k]? = some w) : va_Nw w U := h w (List.mem_of_getElem? hw)
theorem zn.use {U : State} {args : Array Value} (h : zn U) (k : Nat) {w : Cond} (hw : zn_w[k]? = some w) : w.before args U = true := va_Nw.use (zn_tbl w (List.mem_of_getElem? hw)) (h.at k hw)
theorem zn.warm {s U : State} (hW : s.WarmedH U.vm) (h : zn s) : zn U := by
  intro w hw
  have h1 := zn_all w hw
  have h2 := h w hw
  cases w <;> first | exact va_Nw.warmF hW h2 | exact va_Nw.warmM hW h2 | (simp [zn_is] at h1)
theorem zn.same {u U : State} (e : u.vm = U.vm) (h : zn u) : zn U := fun w hw => va_Nw.same (zn_tbl w hw) e (h w hw)
