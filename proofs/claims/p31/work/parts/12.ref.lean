/-- the reference, with ns stations, nj jammers, nm monitors, nt talks, nr readers, nq in its queue -/
def RI (ea : Nat) (S : HS) (ns nj nm nt nr nq : Nat) : Prop :=
  (vV S 16 0) ∧
  (mR S 262 0 = some (gG S 17 6)) ∧
  (mR S 263 0 = some (gG S 17 7)) ∧
  (mR S 264 0 = some (gG S 17 8)) ∧
  (mR S 265 0 = some (gG S 17 9)) ∧
  (mR S 266 0 = some (gG S 17 10)) ∧
  (mR S 267 0 = some (gG S 17 11)) ∧
  (LsOk ea S 6 ns) ∧
  (LsOk ea S 7 nj) ∧
  (LsOk ea S 8 nm) ∧
  (LsOk ea S 9 nt) ∧
  (LsOk ea S 10 nr) ∧
  (LsOk ea S 11 nq) ∧
  (ns ≤ 8) ∧
  (nj ≤ 6) ∧
  (nm ≤ 5) ∧
  (nt ≤ 40) ∧
  (nr ≤ 4) ∧
  (nq ≤ 40) ∧
  (∀ j, j < ns → mB S 30 6 j = some (gG S 14 j) ∧ vV S 14 j) ∧
  (∀ j, j < nj → mB S 30 7 j = some (gG S 33 j) ∧ vV S 33 j ∧ mN S 33 j = 2) ∧
  (∀ j, j < nm → mB S 30 8 j = some (gG S 12 j) ∧ vV S 12 j ∧ mR S 192 j = some (gG S 34 j) ∧ vV S 34 j ∧ mN S 34 j = 5) ∧
  (∀ j, j < nt → mB S 30 9 j = some (gG S 15 j) ∧ vV S 15 j) ∧
  (∀ j, j < nr → mB S 30 10 j = some (gG S 13 j) ∧ vV S 13 j ∧ mR S 210 j = some (gG S 35 j) ∧ vV S 35 j ∧ mN S 35 j = 40) ∧
  (vV S 38 0 ∧ mN S 38 0 = 24 ∧ mR S 268 0 = some (gG S 38 0)) ∧
  (∀ a, a < 24 → mB S 38 0 a = some (gG S 36 a) ∧ vV S 36 a ∧ mN S 36 a = 3) ∧
  (vV S 38 1 ∧ mN S 38 1 = 24 ∧ mR S 269 0 = some (gG S 38 1)) ∧
  (∀ a, a < 24 → mB S 38 1 a = some (gG S 37 a) ∧ vV S 37 a ∧ mN S 37 a = 3) ∧
  (∀ j, j < ns → ∃ g, g < 5 ∧ mI S 227 j = nI g) ∧
  (∀ j, j < nt → ∃ g, g < ns ∧ mI S 240 j = nI g) ∧
  (∀ j, j < nt → ∃ g, g < 720 ∧ mI S 241 j = nI g) ∧
  (∀ j, j < nt → mI S 247 j = -1 ∨ ∃ g, g < 5 ∧ mI S 247 j = nI g) ∧
  (∀ a k, a < 24 → k < 3 → mA S 36 a k = -1 ∨ ∃ g, g < ns ∧ mA S 36 a k = nI g) ∧
  (∀ a k, a < 24 → k < 3 → mA S 37 a k = -1 ∨ ∃ g, g < nm ∧ mA S 37 a k = nI g) ∧
  (∀ a k, a < 24 → k < 3 → (mA S 36 a k = -1 ↔ mA S 37 a k = -1)) ∧
  (∃ g, g ≤ 720 ∧ mI S 257 0 = nI g) ∧
  (∀ j, ns ≤ j → ¬ vV S 14 j) ∧
  (∀ j, nj ≤ j → ¬ vV S 33 j) ∧
  (∀ j, nm ≤ j → ¬ vV S 12 j ∧ ¬ vV S 34 j) ∧
  (∀ j, nt ≤ j → ¬ vV S 15 j) ∧
  (∀ j, nr ≤ j → ¬ vV S 13 j ∧ ¬ vV S 35 j) ∧
  ((ns = 0 → ¬ vV S 30 6) ∧ (nj = 0 → ¬ vV S 30 7) ∧ (nm = 0 → ¬ vV S 30 8) ∧ (nt = 0 → ¬ vV S 30 9) ∧ (nr = 0 → ¬ vV S 30 10) ∧ (nq = 0 → ¬ vV S 30 11)) ∧
  (True) ∧
  (∀ k, ¬ vV S 31 k)
theorem RI.v {ea : Nat} {S : HS} {ns nj nm nt nr nq : Nat} (h : RI ea S ns nj nm nt nr nq) : vV S 16 0 := h.1
theorem RI.f_st {ea : Nat} {S : HS} {ns nj nm nt nr nq : Nat} (h : RI ea S ns nj nm nt nr nq) : mR S 262 0 = some (gG S 17 6) := h.2.1
theorem RI.f_jm {ea : Nat} {S : HS} {ns nj nm nt nr nq : Nat} (h : RI ea S ns nj nm nt nr nq) : mR S 263 0 = some (gG S 17 7) := h.2.2.1
theorem RI.f_mo {ea : Nat} {S : HS} {ns nj nm nt nr nq : Nat} (h : RI ea S ns nj nm nt nr nq) : mR S 264 0 = some (gG S 17 8) := h.2.2.2.1
theorem RI.f_ta {ea : Nat} {S : HS} {ns nj nm nt nr nq : Nat} (h : RI ea S ns nj nm nt nr nq) : mR S 265 0 = some (gG S 17 9) := h.2.2.2.2.1
theorem RI.f_re {ea : Nat} {S : HS} {ns nj nm nt nr nq : Nat} (h : RI ea S ns nj nm nt nr nq) : mR S 266 0 = some (gG S 17 10) := h.2.2.2.2.2.1
theorem RI.f_qu {ea : Nat} {S : HS} {ns nj nm nt nr nq : Nat} (h : RI ea S ns nj nm nt nr nq) : mR S 267 0 = some (gG S 17 11) := h.2.2.2.2.2.2.1
theorem RI.l_st {ea : Nat} {S : HS} {ns nj nm nt nr nq : Nat} (h : RI ea S ns nj nm nt nr nq) : LsOk ea S 6 ns := h.2.2.2.2.2.2.2.1
theorem RI.l_jm {ea : Nat} {S : HS} {ns nj nm nt nr nq : Nat} (h : RI ea S ns nj nm nt nr nq) : LsOk ea S 7 nj := h.2.2.2.2.2.2.2.2.1
theorem RI.l_mo {ea : Nat} {S : HS} {ns nj nm nt nr nq : Nat} (h : RI ea S ns nj nm nt nr nq) : LsOk ea S 8 nm := h.2.2.2.2.2.2.2.2.2.1
theorem RI.l_ta {ea : Nat} {S : HS} {ns nj nm nt nr nq : Nat} (h : RI ea S ns nj nm nt nr nq) : LsOk ea S 9 nt := h.2.2.2.2.2.2.2.2.2.2.1
theorem RI.l_re {ea : Nat} {S : HS} {ns nj nm nt nr nq : Nat} (h : RI ea S ns nj nm nt nr nq) : LsOk ea S 10 nr := h.2.2.2.2.2.2.2.2.2.2.2.1
theorem RI.l_qu {ea : Nat} {S : HS} {ns nj nm nt nr nq : Nat} (h : RI ea S ns nj nm nt nr nq) : LsOk ea S 11 nq := h.2.2.2.2.2.2.2.2.2.2.2.2.1
theorem RI.b_st {ea : Nat} {S : HS} {ns nj nm nt nr nq : Nat} (h : RI ea S ns nj nm nt nr nq) : ns ≤ 8 := h.2.2.2.2.2.2.2.2.2.2.2.2.2.1
theorem RI.b_jm {ea : Nat} {S : HS} {ns nj nm nt nr nq : Nat} (h : RI ea S ns nj nm nt nr nq) : nj ≤ 6 := h.2.2.2.2.2.2.2.2.2.2.2.2.2.2.1
theorem RI.b_mo {ea : Nat} {S : HS} {ns nj nm nt nr nq : Nat} (h : RI ea S ns nj nm nt nr nq) : nm ≤ 5 := h.2.2.2.2.2.2.2.2.2.2.2.2.2.2.2.1
theorem RI.b_ta {ea : Nat} {S : HS} {ns nj nm nt nr nq : Nat} (h : RI ea S ns nj nm nt nr nq) : nt ≤ 40 := h.2.2.2.2.2.2.2.2.2.2.2.2.2.2.2.2.1
theorem RI.b_re {ea : Nat} {S : HS} {ns nj nm nt nr nq : Nat} (h : RI ea S ns nj nm nt nr nq) : nr ≤ 4 := h.2.2.2.2.2.2.2.2.2.2.2.2.2.2.2.2.2.1
theorem RI.b_qu {ea : Nat} {S : HS} {ns nj nm nt nr nq : Nat} (h : RI ea S ns nj nm nt nr nq) : nq ≤ 40 := h.2.2.2.2.2.2.2.2.2.2.2.2.2.2.2.2.2.2.1
theorem RI.e_st {ea : Nat} {S : HS} {ns nj nm nt nr nq : Nat} (h : RI ea S ns nj nm nt nr nq) : ∀ j, j < ns → mB S 30 6 j = some (gG S 14 j) ∧ vV S 14 j := h.2.2.2.2.2.2.2.2.2.2.2.2.2.2.2.2.2.2.2.1
theorem RI.e_jm {ea : Nat} {S : HS} {ns nj nm nt nr nq : Nat} (h : RI ea S ns nj nm nt nr nq) : ∀ j, j < nj → mB S 30 7 j = some (gG S 33 j) ∧ vV S 33 j ∧ mN S 33 j = 2 := h.2.2.2.2.2.2.2.2.2.2.2.2.2.2.2.2.2.2.2.2.1
theorem RI.e_mo {ea : Nat} {S : HS} {ns nj nm nt nr nq : Nat} (h : RI ea S ns nj nm nt nr nq) : ∀ j, j < nm → mB S 30 8 j = some (gG S 12 j) ∧ vV S 12 j ∧ mR S 192 j = some (gG S 34 j) ∧ vV S 34 j ∧ mN S 34 j = 5 := h.2.2.2.2.2.2.2.2.2.2.2.2.2.2.2.2.2.2.2.2.2.1
theorem RI.e_ta {ea : Nat} {S : HS} {ns nj nm nt nr nq : Nat} (h : RI ea S ns nj nm nt nr nq) : ∀ j, j < nt → mB S 30 9 j = some (gG S 15 j) ∧ vV S 15 j := h.2.2.2.2.2.2.2.2.2.2.2.2.2.2.2.2.2.2.2.2.2.2.1
theorem RI.e_re {ea : Nat} {S : HS} {ns nj nm nt nr nq : Nat} (h : RI ea S ns nj nm nt nr nq) : ∀ j, j < nr → mB S 30 10 j = some (gG S 13 j) ∧ vV S 13 j ∧ mR S 210 j = some (gG S 35 j) ∧ vV S 35 j ∧ mN S 35 j = 40 := h.2.2.2.2.2.2.2.2.2.2.2.2.2.2.2.2.2.2.2.2.2.2.2.1
theorem RI.h1 {ea : Nat} {S : HS} {ns nj nm nt nr nq : Nat} (h : RI ea S ns nj nm nt nr nq) : vV S 38 0 ∧ mN S 38 0 = 24 ∧ mR S 268 0 = some (gG S 38 0) := h.2.2.2.2.2.2.2.2.2.2.2.2.2.2.2.2.2.2.2.2.2.2.2.2.1
theorem RI.h2 {ea : Nat} {S : HS} {ns nj nm nt nr nq : Nat} (h : RI ea S ns nj nm nt nr nq) : ∀ a, a < 24 → mB S 38 0 a = some (gG S 36 a) ∧ vV S 36 a ∧ mN S 36 a = 3 := h.2.2.2.2.2.2.2.2.2.2.2.2.2.2.2.2.2.2.2.2.2.2.2.2.2.1
theorem RI.s1 {ea : Nat} {S : HS} {ns nj nm nt nr nq : Nat} (h : RI ea S ns nj nm nt nr nq) : vV S 38 1 ∧ mN S 38 1 = 24 ∧ mR S 269 0 = some (gG S 38 1) := h.2.2.2.2.2.2.2.2.2.2.2.2.2.2.2.2.2.2.2.2.2.2.2.2.2.2.1
theorem RI.s2 {ea : Nat} {S : HS} {ns nj nm nt nr nq : Nat} (h : RI ea S ns nj nm nt nr nq) : ∀ a, a < 24 → mB S 38 1 a = some (gG S 37 a) ∧ vV S 37 a ∧ mN S 37 a = 3 := h.2.2.2.2.2.2.2.2.2.2.2.2.2.2.2.2.2.2.2.2.2.2.2.2.2.2.2.1
theorem RI.x_st {ea : Nat} {S : HS} {ns nj nm nt nr nq : Nat} (h : RI ea S ns nj nm nt nr nq) : ∀ j, j < ns → ∃ g, g < 5 ∧ mI S 227 j = nI g := h.2.2.2.2.2.2.2.2.2.2.2.2.2.2.2.2.2.2.2.2.2.2.2.2.2.2.2.2.1
theorem RI.x_ts {ea : Nat} {S : HS} {ns nj nm nt nr nq : Nat} (h : RI ea S ns nj nm nt nr nq) : ∀ j, j < nt → ∃ g, g < ns ∧ mI S 240 j = nI g := h.2.2.2.2.2.2.2.2.2.2.2.2.2.2.2.2.2.2.2.2.2.2.2.2.2.2.2.2.2.1
theorem RI.x_th {ea : Nat} {S : HS} {ns nj nm nt nr nq : Nat} (h : RI ea S ns nj nm nt nr nq) : ∀ j, j < nt → ∃ g, g < 720 ∧ mI S 241 j = nI g := h.2.2.2.2.2.2.2.2.2.2.2.2.2.2.2.2.2.2.2.2.2.2.2.2.2.2.2.2.2.2.1
theorem RI.x_tt {ea : Nat} {S : HS} {ns nj nm nt nr nq : Nat} (h : RI ea S ns nj nm nt nr nq) : ∀ j, j < nt → mI S 247 j = -1 ∨ ∃ g, g < 5 ∧ mI S 247 j = nI g := h.2.2.2.2.2.2.2.2.2.2.2.2.2.2.2.2.2.2.2.2.2.2.2.2.2.2.2.2.2.2.2.1
theorem RI.x_he {ea : Nat} {S : HS} {ns nj nm nt nr nq : Nat} (h : RI ea S ns nj nm nt nr nq) : ∀ a k, a < 24 → k < 3 → mA S 36 a k = -1 ∨ ∃ g, g < ns ∧ mA S 36 a k = nI g := h.2.2.2.2.2.2.2.2.2.2.2.2.2.2.2.2.2.2.2.2.2.2.2.2.2.2.2.2.2.2.2.2.1
theorem RI.x_si {ea : Nat} {S : HS} {ns nj nm nt nr nq : Nat} (h : RI ea S ns nj nm nt nr nq) : ∀ a k, a < 24 → k < 3 → mA S 37 a k = -1 ∨ ∃ g, g < nm ∧ mA S 37 a k = nI g := h.2.2.2.2.2.2.2.2.2.2.2.2.2.2.2.2.2.2.2.2.2.2.2.2.2.2.2.2.2.2.2.2.2.1
theorem RI.x_hs {ea : Nat} {S : HS} {ns nj nm nt nr nq : Nat} (h : RI ea S ns nj nm nt nr nq) : ∀ a k, a < 24 → k < 3 → (mA S 36 a k = -1 ↔ mA S 37 a k = -1) := h.2.2.2.2.2.2.2.2.2.2.2.2.2.2.2.2.2.2.2.2.2.2.2.2.2.2.2.2.2.2.2.2.2.2.1
theorem RI.x_ho {ea : Nat} {S : HS} {ns nj nm nt nr nq : Nat} (h : RI ea S ns nj nm nt nr nq) : ∃ g, g ≤ 720 ∧ mI S 257 0 = nI g := h.2.2.2.2.2.2.2.2.2.2.2.2.2.2.2.2.2.2.2.2.2.2.2.2.2.2.2.2.2.2.2.2.2.2.2.1
theorem RI.z_st {ea : Nat} {S : HS} {ns nj nm nt nr nq : Nat} (h : RI ea S ns nj nm nt nr nq) : ∀ j, ns ≤ j → ¬ vV S 14 j := h.2.2.2.2.2.2.2.2.2.2.2.2.2.2.2.2.2.2.2.2.2.2.2.2.2.2.2.2.2.2.2.2.2.2.2.2.1
theorem RI.z_jm {ea : Nat} {S : HS} {ns nj nm nt nr nq : Nat} (h : RI ea S ns nj nm nt nr nq) : ∀ j, nj ≤ j → ¬ vV S 33 j := h.2.2.2.2.2.2.2.2.2.2.2.2.2.2.2.2.2.2.2.2.2.2.2.2.2.2.2.2.2.2.2.2.2.2.2.2.2.1
theorem RI.z_mo {ea : Nat} {S : HS} {ns nj nm nt nr nq : Nat} (h : RI ea S ns nj nm nt nr nq) : ∀ j, nm ≤ j → ¬ vV S 12 j ∧ ¬ vV S 34 j := h.2.2.2.2.2.2.2.2.2.2.2.2.2.2.2.2.2.2.2.2.2.2.2.2.2.2.2.2.2.2.2.2.2.2.2.2.2.2.1
theorem RI.z_ta {ea : Nat} {S : HS} {ns nj nm nt nr nq : Nat} (h : RI ea S ns nj nm nt nr nq) : ∀ j, nt ≤ j → ¬ vV S 15 j := h.2.2.2.2.2.2.2.2.2.2.2.2.2.2.2.2.2.2.2.2.2.2.2.2.2.2.2.2.2.2.2.2.2.2.2.2.2.2.2.1
theorem RI.z_re {ea : Nat} {S : HS} {ns nj nm nt nr nq : Nat} (h : RI ea S ns nj nm nt nr nq) : ∀ j, nr ≤ j → ¬ vV S 13 j ∧ ¬ vV S 35 j := h.2.2.2.2.2.2.2.2.2.2.2.2.2.2.2.2.2.2.2.2.2.2.2.2.2.2.2.2.2.2.2.2.2.2.2.2.2.2.2.2.1
theorem RI.z30 {ea : Nat} {S : HS} {ns nj nm nt nr nq : Nat} (h : RI ea S ns nj nm nt nr nq) : (ns = 0 → ¬ vV S 30 6) ∧ (nj = 0 → ¬ vV S 30 7) ∧ (nm = 0 → ¬ vV S 30 8) ∧ (nt = 0 → ¬ vV S 30 9) ∧ (nr = 0 → ¬ vV S 30 10) ∧ (nq = 0 → ¬ vV S 30 11) := h.2.2.2.2.2.2.2.2.2.2.2.2.2.2.2.2.2.2.2.2.2.2.2.2.2.2.2.2.2.2.2.2.2.2.2.2.2.2.2.2.2.1
theorem RI.z12 {ea : Nat} {S : HS} {ns nj nm nt nr nq : Nat} (h : RI ea S ns nj nm nt nr nq) : True := h.2.2.2.2.2.2.2.2.2.2.2.2.2.2.2.2.2.2.2.2.2.2.2.2.2.2.2.2.2.2.2.2.2.2.2.2.2.2.2.2.2.2.1
theorem RI.z31 {ea : Nat} {S : HS} {ns nj nm nt nr nq : Nat} (h : RI ea S ns nj nm nt nr nq) : ∀ k, ¬ vV S 31 k := h.2.2.2.2.2.2.2.2.2.2.2.2.2.2.2.2.2.2.2.2.2.2.2.2.2.2.2.2.2.2.2.2.2.2.2.2.2.2.2.2.2.2.2
theorem fw_size : FwT "java/util/ArrayList" ⟨"java/util/List", "size", "()I"⟩ yJx4a65c_size_8abf5 := ⟨(List.mem_filter.mp wDe_java_util_List_size___I).1, wIM_size__I, wPu_Jx4a65c_size_8abf5, wUn_Jx4a65c_size__I, (List.mem_filter.mp wCa_Jx4a65c_Jxbd725).1⟩
theorem fw_get : FwT "java/util/ArrayList" ⟨"java/util/List", "get", "(I)Ljava/lang/Object;"⟩ yJx4a65c_get_915e3 := ⟨(List.mem_filter.mp wDe_java_util_List_get__I_Ljava_lang_Object_).1, wIM_get_I_Ljava_lang_Object_, wPu_Jx4a65c_get_915e3, wUn_Jx4a65c_get_I_Ljava_lang_Object_, (List.mem_filter.mp wCa_Jx4a65c_Jxbd725).1⟩
theorem fw_add : FwT "java/util/ArrayList" ⟨"java/util/List", "add", "(Ljava/lang/Object;)Z"⟩ yJx4a65c_add_9ea2d := ⟨(List.mem_filter.mp wDe_java_util_List_add__Ljava_lang_Object__Z).1, wIM_add_Ljava_lang_Object__Z, wPu_Jx4a65c_add_9ea2d, wUn_Jx4a65c_add_Ljava_lang_Object__Z, (List.mem_filter.mp wCa_Jx4a65c_Jxbd725).1⟩
