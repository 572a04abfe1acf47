/-! the classes of the worlds, by number; the fields, 16 codes a class -/
abbrev CL : List vw_C := [(RX0, TX0, 2), (RX1, TX1, 2), (RX2, TX2, 5), (RX3, TX3, 4), (RX4, TX4, 7), (RX5, TX5, 3), (RX6, TX6, 13), (RX7, TX7, 4), (RX8, TX8, 7), (RX9, TX9, 9), (RX10, TX10, 6), (RX11, TX11, 3), (RX12, TX12, 4), (RX13, TX13, 3), (RX14, TX14, 6), (RX15, TX15, 14), (RX16, TX16, 14), (RJx4a65c, TJx4a65c, 3), (RJ4, TJ4, 4), (RJ0, TJ0, 4), (RJ6, TJ6, 1)]
def nfL : List Nat := [2, 2, 5, 4, 7, 3, 13, 4, 7, 9, 6, 3, 4, 3, 6, 14, 14, 3, 4, 4, 1]
def nf (t : Nat) : Nat := nfL.getD t 0
def tyL : List Nat := [1, 1, 0, 0, 0, 0, 0, 0, 0, 0, 0, 0, 0, 0, 0, 0, 0, 0, 0, 0, 0, 0, 0, 0, 0, 0, 0, 0, 0, 0, 0, 0, 1, 1, 1, 1, 1, 0, 0, 0, 0, 0, 0, 0, 0, 0, 0, 0, 0, 0, 0, 0, 0, 0, 0, 0, 0, 0, 0, 0, 0, 0, 0, 0, 1, 1, 1, 0, 0, 0, 0, 0, 0, 0, 0, 0, 0, 0, 0, 0, 0, 0, 0, 0, 0, 0, 0, 0, 0, 0, 0, 0, 0, 0, 0, 0, 0, 0, 0, 0, 0, 0, 0, 0, 0, 0, 0, 0, 0, 0, 0, 0, 1, 1, 1, 1, 0, 0, 0, 0, 0, 0, 0, 0, 0, 0, 0, 0, 0, 0, 0, 0, 0, 0, 0, 0, 0, 0, 0, 0, 0, 0, 0, 0, 0, 1, 0, 0, 0, 0, 0, 0, 1, 0, 0, 0, 0, 0, 0, 0, 1, 1, 1, 1, 0, 0, 0, 0, 0, 0, 0, 0, 0, 0, 0, 0, 2, 3, 1, 0, 0, 0, 0, 0, 0, 0, 0, 0, 0, 0, 0, 0, 1, 0, 0, 0, 0, 0, 0, 0, 0, 0, 0, 0, 0, 0, 0, 0, 0, 0, 1, 0, 0, 0, 0, 0, 0, 0, 0, 0, 0, 0, 0, 0, 0, 0, 0, 0, 0, 0, 0, 0, 0, 0, 0, 0, 0, 0, 0, 0, 0, 0, 0, 0, 0, 0, 0, 0, 0, 0, 0, 0, 0, 0, 0, 0, 0, 0, 0, 0, 0, 0, 1, 1, 1, 1, 1, 1, 1, 1, 0, 0, 0, 1, 0, 0, 0, 0, 0, 0, 0, 0, 0, 0, 0, 0, 0, 0, 1, 0, 0, 0, 0, 0, 0, 0, 0, 0, 0, 0, 0, 0, 0, 0, 1, 0, 0, 0, 0, 0, 0, 0, 0, 0, 0, 0, 0, 0, 0, 0, 0, 0, 0, 0, 0, 0, 0, 0, 0, 0, 0, 0, 0, 0, 0, 0]
def tyF (f : Nat) : Nat := tyL.getD f 0
def LYW_0 : List Cond := [(Jvm.Cond.laysStatic "java/util/ArrayList" "DEFAULTCAPACITY_EMPTY_ELEMENTDATA" "[Ljava/lang/Object;"), (Jvm.Cond.lays "java/util/ArrayList" "java/util/ArrayList" "elementData" "[Ljava/lang/Object;"), (Jvm.Cond.lays "java/util/ArrayList" "java/util/ArrayList" "size" "I"), (Jvm.Cond.lays "java/util/ArrayList" "java/util/AbstractList" "modCount" "I"), (Jvm.Cond.laysFinal "CavershamShift$Dial" "CavershamShift$Dial" "stations" "Ljava/util/ArrayList;"), (Jvm.Cond.laysFinal "CavershamShift$Dial" "CavershamShift$Dial" "jammers" "Ljava/util/ArrayList;"), (Jvm.Cond.laysFinal "CavershamShift$Room" "CavershamShift$Room" "dial" "LCavershamShift$Dial;"), (Jvm.Cond.laysFinal "CavershamShift$Room" "CavershamShift$Room" "monitors" "Ljava/util/ArrayList;"), (Jvm.Cond.laysFinal "CavershamShift$Room" "CavershamShift$Room" "stationOfSlot" "[I"), (Jvm.Cond.laysFinal "CavershamShift$Room" "CavershamShift$Room" "monitorOfSlot" "[I"), (Jvm.Cond.laysFinal "CavershamShift$Newsroom" "CavershamShift$Newsroom" "talks" "Ljava/util/ArrayList;"), (Jvm.Cond.laysFinal "CavershamShift$Newsroom" "CavershamShift$Newsroom" "readers" "Ljava/util/ArrayList;"), (Jvm.Cond.laysFinal "CavershamShift$Newsroom" "CavershamShift$Newsroom" "corrections" "Ljava/util/ArrayList;"), (Jvm.Cond.lays "CavershamShift$Newsroom" "CavershamShift$Newsroom" "correctionsSent" "I"), (Jvm.Cond.lays "CavershamShift$Newsroom" "CavershamShift$Newsroom" "reportsSent" "I"), (Jvm.Cond.lays "CavershamShift$Newsroom" "CavershamShift$Newsroom" "wordsLeft" "I")]
set_option maxRecDepth 8000 in
theorem LYW_0_t : ∀ w ∈ LYW_0, w ∈ lw_tbl := List.forall_mem_cons.mpr ⟨wT1 68 rfl, List.forall_mem_cons.mpr ⟨wT1 74 rfl, List.forall_mem_cons.mpr ⟨wT1 76 rfl, List.forall_mem_cons.mpr ⟨wT1 78 rfl, List.forall_mem_cons.mpr ⟨wT1 86 rfl, List.forall_mem_cons.mpr ⟨wT1 88 rfl, List.forall_mem_cons.mpr ⟨wT1 107 rfl, List.forall_mem_cons.mpr ⟨wT1 109 rfl, List.forall_mem_cons.mpr ⟨wT1 111 rfl, List.forall_mem_cons.mpr ⟨wT1 113 rfl, List.forall_mem_cons.mpr ⟨wT1 138 rfl, List.forall_mem_cons.mpr ⟨wT1 140 rfl, List.forall_mem_cons.mpr ⟨wT1 142 rfl, List.forall_mem_cons.mpr ⟨wT1 144 rfl, List.forall_mem_cons.mpr ⟨wT1 146 rfl, List.forall_mem_cons.mpr ⟨wT1 148 rfl, fun w h => absurd h List.not_mem_nil⟩⟩⟩⟩⟩⟩⟩⟩⟩⟩⟩⟩⟩⟩⟩⟩
def LYW_1 : List Cond := [(Jvm.Cond.lays "CavershamShift$Newsroom" "CavershamShift$Newsroom" "partnerLands" "I"), (Jvm.Cond.laysFinal "CavershamShift$Matching" "CavershamShift$Matching" "dial" "LCavershamShift$Dial;"), (Jvm.Cond.laysFinal "CavershamShift$Matching" "CavershamShift$Matching" "room" "LCavershamShift$Room;"), (Jvm.Cond.laysFinal "CavershamShift$Matching" "CavershamShift$Matching" "qualities" "[I"), (Jvm.Cond.laysFinal "CavershamShift$Matching" "CavershamShift$Matching" "sums" "[I"), (Jvm.Cond.laysFinal "CavershamShift$Matching" "CavershamShift$Matching" "pairs" "[I"), (Jvm.Cond.laysFinal "CavershamShift" "CavershamShift" "dial" "LCavershamShift$Dial;"), (Jvm.Cond.laysFinal "CavershamShift" "CavershamShift" "room" "LCavershamShift$Room;"), (Jvm.Cond.laysFinal "CavershamShift" "CavershamShift" "newsroom" "LCavershamShift$Newsroom;"), (Jvm.Cond.laysFinal "CavershamShift" "CavershamShift" "matching" "LCavershamShift$Matching;"), (Jvm.Cond.lays "CavershamShift" "CavershamShift" "hour" "I"), (Jvm.Cond.lays "CavershamShift" "CavershamShift" "refused" "I"), (Jvm.Cond.lays "CavershamShiftLaw$Out" "CavershamShiftLaw$Out" "n" "J"), (Jvm.Cond.lays "CavershamShiftLaw$Out" "CavershamShiftLaw$Out" "d" "D"), (Jvm.Cond.lays "CavershamShiftLaw$Out" "CavershamShiftLaw$Out" "s" "Ljava/lang/String;"), (Jvm.Cond.lays "java/lang/IllegalArgumentException" "java/lang/Throwable" "cause" "Ljava/lang/Throwable;")]
set_option maxRecDepth 8000 in
theorem LYW_1_t : ∀ w ∈ LYW_1, w ∈ lw_tbl := List.forall_mem_cons.mpr ⟨wT1 150 rfl, List.forall_mem_cons.mpr ⟨wT1 164 rfl, List.forall_mem_cons.mpr ⟨wT1 166 rfl, List.forall_mem_cons.mpr ⟨wT1 168 rfl, List.forall_mem_cons.mpr ⟨wT1 170 rfl, List.forall_mem_cons.mpr ⟨wT1 172 rfl, List.forall_mem_cons.mpr ⟨wT1 181 rfl, List.forall_mem_cons.mpr ⟨wT1 183 rfl, List.forall_mem_cons.mpr ⟨wT1 185 rfl, List.forall_mem_cons.mpr ⟨wT1 187 rfl, List.forall_mem_cons.mpr ⟨wT1 189 rfl, List.forall_mem_cons.mpr ⟨wT1 191 rfl, List.forall_mem_cons.mpr ⟨wT3 127 rfl, List.forall_mem_cons.mpr ⟨wT3 129 rfl, List.forall_mem_cons.mpr ⟨wT3 131 rfl, List.forall_mem_cons.mpr ⟨wT3 155 rfl, fun w h => absurd h List.not_mem_nil⟩⟩⟩⟩⟩⟩⟩⟩⟩⟩⟩⟩⟩⟩⟩⟩
def LYW_2 : List Cond := [(Jvm.Cond.lays "java/lang/Throwable" "java/lang/Throwable" "cause" "Ljava/lang/Throwable;"), (Jvm.Cond.lays "java/lang/IllegalArgumentException" "java/lang/Throwable" "stackTrace" "[Ljava/lang/StackTraceElement;"), (Jvm.Cond.lays "java/lang/Throwable" "java/lang/Throwable" "stackTrace" "[Ljava/lang/StackTraceElement;"), (Jvm.Cond.lays "java/lang/IllegalArgumentException" "java/lang/Throwable" "suppressedExceptions" "Ljava/util/List;"), (Jvm.Cond.lays "java/lang/Throwable" "java/lang/Throwable" "suppressedExceptions" "Ljava/util/List;"), (Jvm.Cond.lays "java/lang/IllegalArgumentException" "java/lang/Throwable" "detailMessage" "Ljava/lang/String;"), (Jvm.Cond.lays "java/lang/Throwable" "java/lang/Throwable" "detailMessage" "Ljava/lang/String;"), (Jvm.Cond.lays "java/lang/IllegalArgumentException" "java/lang/Throwable" "backtrace" "Ljava/lang/Object;"), (Jvm.Cond.lays "java/lang/Throwable" "java/lang/Throwable" "backtrace" "Ljava/lang/Object;"), (Jvm.Cond.laysStatic "java/lang/Throwable" "UNASSIGNED_STACK" "[Ljava/lang/StackTraceElement;"), (Jvm.Cond.laysStatic "java/lang/Throwable" "SUPPRESSED_SENTINEL" "Ljava/util/List;"), (Jvm.Cond.lays "java/lang/IllegalArgumentException" "java/lang/Throwable" "depth" "I"), (Jvm.Cond.lays "java/lang/IllegalStateException" "java/lang/Throwable" "cause" "Ljava/lang/Throwable;"), (Jvm.Cond.lays "java/lang/IllegalStateException" "java/lang/Throwable" "stackTrace" "[Ljava/lang/StackTraceElement;"), (Jvm.Cond.lays "java/lang/IllegalStateException" "java/lang/Throwable" "suppressedExceptions" "Ljava/util/List;"), (Jvm.Cond.lays "java/lang/IllegalStateException" "java/lang/Throwable" "detailMessage" "Ljava/lang/String;")]
set_option maxRecDepth 8000 in
theorem LYW_2_t : ∀ w ∈ LYW_2, w ∈ lw_tbl := List.forall_mem_cons.mpr ⟨wT3 156 rfl, List.forall_mem_cons.mpr ⟨wT3 157 rfl, List.forall_mem_cons.mpr ⟨wT3 158 rfl, List.forall_mem_cons.mpr ⟨wT3 159 rfl, List.forall_mem_cons.mpr ⟨wT3 160 rfl, List.forall_mem_cons.mpr ⟨wT3 161 rfl, List.forall_mem_cons.mpr ⟨wT3 162 rfl, List.forall_mem_cons.mpr ⟨wT3 163 rfl, List.forall_mem_cons.mpr ⟨wT3 164 rfl, List.forall_mem_cons.mpr ⟨wT3 171 rfl, List.forall_mem_cons.mpr ⟨wT3 173 rfl, List.forall_mem_cons.mpr ⟨wT3 207 rfl, List.forall_mem_cons.mpr ⟨wT3 218 rfl, List.forall_mem_cons.mpr ⟨wT3 219 rfl, List.forall_mem_cons.mpr ⟨wT3 220 rfl, List.forall_mem_cons.mpr ⟨wT3 221 rfl, fun w h => absurd h List.not_mem_nil⟩⟩⟩⟩⟩⟩⟩⟩⟩⟩⟩⟩⟩⟩⟩⟩
def LYW_3 : List Cond := [(Jvm.Cond.lays "java/lang/IllegalStateException" "java/lang/Throwable" "backtrace" "Ljava/lang/Object;"), (Jvm.Cond.lays "java/lang/IllegalStateException" "java/lang/Throwable" "depth" "I"), (Jvm.Cond.laysFinal "CavershamShift$Station" "CavershamShift$Station" "number" "I"), (Jvm.Cond.lays "CavershamShift$Station" "CavershamShift$Station" "band" "I"), (Jvm.Cond.laysFinal "CavershamShift$Station" "CavershamShift$Station" "power" "I"), (Jvm.Cond.laysFinal "CavershamShift$Station" "CavershamShift$Station" "far" "I"), (Jvm.Cond.laysFinal "CavershamShift$Station" "CavershamShift$Station" "land" "I"), (Jvm.Cond.laysFinal "CavershamShift$Station" "CavershamShift$Station" "tongue" "I"), (Jvm.Cond.laysFinal "CavershamShift$Station" "CavershamShift$Station" "hours" "I"), (Jvm.Cond.lays "java/lang/IndexOutOfBoundsException" "java/lang/Throwable" "cause" "Ljava/lang/Throwable;"), (Jvm.Cond.lays "java/lang/IndexOutOfBoundsException" "java/lang/Throwable" "stackTrace" "[Ljava/lang/StackTraceElement;"), (Jvm.Cond.lays "java/lang/IndexOutOfBoundsException" "java/lang/Throwable" "suppressedExceptions" "Ljava/util/List;"), (Jvm.Cond.lays "java/lang/IndexOutOfBoundsException" "java/lang/Throwable" "detailMessage" "Ljava/lang/String;"), (Jvm.Cond.lays "java/lang/IndexOutOfBoundsException" "java/lang/Throwable" "backtrace" "Ljava/lang/Object;"), (Jvm.Cond.lays "java/lang/IndexOutOfBoundsException" "java/lang/Throwable" "depth" "I"), (Jvm.Cond.laysFinal "CavershamShift$Jammer" "CavershamShift$Jammer" "band" "I")]
set_option maxRecDepth 8000 in
theorem LYW_3_t : ∀ w ∈ LYW_3, w ∈ lw_tbl := List.forall_mem_cons.mpr ⟨wT3 222 rfl, List.forall_mem_cons.mpr ⟨wT3 228 rfl, List.forall_mem_cons.mpr ⟨wT4 15 rfl, List.forall_mem_cons.mpr ⟨wT4 17 rfl, List.forall_mem_cons.mpr ⟨wT4 19 rfl, List.forall_mem_cons.mpr ⟨wT4 21 rfl, List.forall_mem_cons.mpr ⟨wT4 23 rfl, List.forall_mem_cons.mpr ⟨wT4 25 rfl, List.forall_mem_cons.mpr ⟨wT4 27 rfl, List.forall_mem_cons.mpr ⟨wT4 44 rfl, List.forall_mem_cons.mpr ⟨wT4 45 rfl, List.forall_mem_cons.mpr ⟨wT4 46 rfl, List.forall_mem_cons.mpr ⟨wT4 47 rfl, List.forall_mem_cons.mpr ⟨wT4 48 rfl, List.forall_mem_cons.mpr ⟨wT4 54 rfl, List.forall_mem_cons.mpr ⟨wT4 77 rfl, fun w h => absurd h List.not_mem_nil⟩⟩⟩⟩⟩⟩⟩⟩⟩⟩⟩⟩⟩⟩⟩⟩
def LYW_4 : List Cond := [(Jvm.Cond.lays "CavershamShift$Jammer" "CavershamShift$Jammer" "power" "I"), (Jvm.Cond.laysFinal "CavershamShift$Monitor" "CavershamShift$Monitor" "number" "I"), (Jvm.Cond.laysFinal "CavershamShift$Monitor" "CavershamShift$Monitor" "skills" "I"), (Jvm.Cond.lays "CavershamShift$Monitor" "CavershamShift$Monitor" "weary" "I"), (Jvm.Cond.lays "CavershamShift$Monitor" "CavershamShift$Monitor" "hoursSat" "I"), (Jvm.Cond.laysFinal "CavershamShift$Talk" "CavershamShift$Talk" "number" "I"), (Jvm.Cond.laysFinal "CavershamShift$Talk" "CavershamShift$Talk" "station" "LCavershamShift$Station;"), (Jvm.Cond.laysFinal "CavershamShift$Talk" "CavershamShift$Talk" "hour" "I"), (Jvm.Cond.laysFinal "CavershamShift$Talk" "CavershamShift$Talk" "topic" "I"), (Jvm.Cond.laysFinal "CavershamShift$Talk" "CavershamShift$Talk" "words" "I"), (Jvm.Cond.laysFinal "CavershamShift$Talk" "CavershamShift$Talk" "weight" "I"), (Jvm.Cond.laysFinal "CavershamShift$Talk" "CavershamShift$Talk" "formulas" "I"), (Jvm.Cond.lays "CavershamShift$Talk" "CavershamShift$Talk" "print" "I"), (Jvm.Cond.lays "CavershamShift$Talk" "CavershamShift$Talk" "report" "LCavershamShift$Report;"), (Jvm.Cond.laysFinal "CavershamShift$Reader" "CavershamShift$Reader" "number" "I"), (Jvm.Cond.lays "CavershamShift$Reader" "CavershamShift$Reader" "lands" "I")]
set_option maxRecDepth 8000 in
theorem LYW_4_t : ∀ w ∈ LYW_4, w ∈ lw_tbl := List.forall_mem_cons.mpr ⟨wT4 79 rfl, List.forall_mem_cons.mpr ⟨wT4 119 rfl, List.forall_mem_cons.mpr ⟨wT4 121 rfl, List.forall_mem_cons.mpr ⟨wT4 123 rfl, List.forall_mem_cons.mpr ⟨wT4 125 rfl, List.forall_mem_cons.mpr ⟨wT4 198 rfl, List.forall_mem_cons.mpr ⟨wT4 200 rfl, List.forall_mem_cons.mpr ⟨wT4 202 rfl, List.forall_mem_cons.mpr ⟨wT4 204 rfl, List.forall_mem_cons.mpr ⟨wT4 206 rfl, List.forall_mem_cons.mpr ⟨wT4 208 rfl, List.forall_mem_cons.mpr ⟨wT4 210 rfl, List.forall_mem_cons.mpr ⟨wT4 212 rfl, List.forall_mem_cons.mpr ⟨wT4 214 rfl, List.forall_mem_cons.mpr ⟨wT5 14 rfl, List.forall_mem_cons.mpr ⟨wT5 16 rfl, fun w h => absurd h List.not_mem_nil⟩⟩⟩⟩⟩⟩⟩⟩⟩⟩⟩⟩⟩⟩⟩⟩
def LYW_5 : List Cond := [(Jvm.Cond.lays "CavershamShift$Reader" "CavershamShift$Reader" "topics" "I"), (Jvm.Cond.laysFinal "CavershamShift$Report" "CavershamShift$Report" "sort" "I"), (Jvm.Cond.laysFinal "CavershamShift$Report" "CavershamShift$Report" "length" "I"), (Jvm.Cond.laysFinal "CavershamShift$Report" "CavershamShift$Report" "caught" "I"), (Jvm.Cond.laysFinal "CavershamShift$Report" "CavershamShift$Report" "heard" "I"), (Jvm.Cond.laysFinal "CavershamShift$Report" "CavershamShift$Report" "guessed" "I"), (Jvm.Cond.laysFinal "CavershamShift$Report" "CavershamShift$Report" "set" "I"), (Jvm.Cond.laysFinal "CavershamShift$Report" "CavershamShift$Report" "monitor" "I"), (Jvm.Cond.laysFinal "CavershamShift$Report" "CavershamShift$Report" "quality" "I"), (Jvm.Cond.lays "CavershamShift$Report" "CavershamShift$Report" "state" "I"), (Jvm.Cond.lays "CavershamShift$Report" "CavershamShift$Report" "sentHour" "I"), (Jvm.Cond.lays "CavershamShift$Report" "CavershamShift$Report" "sentTurn" "I"), (Jvm.Cond.lays "CavershamShift$Report" "CavershamShift$Report" "correction" "I"), (Jvm.Cond.lays "CavershamShift$Report" "CavershamShift$Report" "readers" "I"), (Jvm.Cond.laysStatic "java/lang/String" "COMPACT_STRINGS" "Z"), (Jvm.Cond.lays "java/lang/StringBuilder" "java/lang/AbstractStringBuilder" "value" "[B")]
set_option maxRecDepth 8000 in
theorem LYW_5_t : ∀ w ∈ LYW_5, w ∈ lw_tbl := List.forall_mem_cons.mpr ⟨wT5 18 rfl, List.forall_mem_cons.mpr ⟨wT5 122 rfl, List.forall_mem_cons.mpr ⟨wT5 124 rfl, List.forall_mem_cons.mpr ⟨wT5 126 rfl, List.forall_mem_cons.mpr ⟨wT5 128 rfl, List.forall_mem_cons.mpr ⟨wT5 130 rfl, List.forall_mem_cons.mpr ⟨wT5 132 rfl, List.forall_mem_cons.mpr ⟨wT5 134 rfl, List.forall_mem_cons.mpr ⟨wT5 136 rfl, List.forall_mem_cons.mpr ⟨wT5 138 rfl, List.forall_mem_cons.mpr ⟨wT5 140 rfl, List.forall_mem_cons.mpr ⟨wT5 142 rfl, List.forall_mem_cons.mpr ⟨wT5 144 rfl, List.forall_mem_cons.mpr ⟨wT5 146 rfl, List.forall_mem_cons.mpr ⟨wT6 54 rfl, List.forall_mem_cons.mpr ⟨wT6 66 rfl, fun w h => absurd h List.not_mem_nil⟩⟩⟩⟩⟩⟩⟩⟩⟩⟩⟩⟩⟩⟩⟩⟩
def LYW_6 : List Cond := [(Jvm.Cond.lays "java/lang/StringBuilder" "java/lang/AbstractStringBuilder" "coder" "B"), (Jvm.Cond.lays "java/lang/StringBuilder" "java/lang/AbstractStringBuilder" "maybeLatin1" "Z"), (Jvm.Cond.lays "java/lang/StringBuilder" "java/lang/AbstractStringBuilder" "count" "I"), (Jvm.Cond.laysStatic "java/lang/Integer" "DigitOnes" "[B"), (Jvm.Cond.laysStatic "java/lang/Integer" "DigitTens" "[B"), (Jvm.Cond.laysStatic "jdk/internal/util/Preconditions" "SIOOBE_FORMATTER" "Ljava/util/function/BiFunction;"), (Jvm.Cond.laysStatic "java/lang/StringUTF16" "$assertionsDisabled" "Z"), (Jvm.Cond.laysStatic "java/lang/StringUTF16" "HI_BYTE_SHIFT" "I"), (Jvm.Cond.laysStatic "java/lang/StringUTF16" "LO_BYTE_SHIFT" "I"), (Jvm.Cond.laysFinal "java/lang/String" "java/lang/String" "value" "[B"), (Jvm.Cond.laysFinal "java/lang/String" "java/lang/String" "coder" "B"), (Jvm.Cond.lays "java/lang/String" "java/lang/String" "hash" "I"), (Jvm.Cond.lays "java/lang/String" "java/lang/String" "hashIsZero" "Z"), (Jvm.Cond.lays "CavershamShiftModel" "CavershamShiftModel" "thrown" "I"), (Jvm.Cond.lays "CavershamShiftModel" "CavershamShiftModel" "hour" "I"), (Jvm.Cond.lays "CavershamShiftModel" "CavershamShiftModel" "wire" "I")]
set_option maxRecDepth 8000 in
theorem LYW_6_t : ∀ w ∈ LYW_6, w ∈ lw_tbl := List.forall_mem_cons.mpr ⟨wT6 68 rfl, List.forall_mem_cons.mpr ⟨wT6 70 rfl, List.forall_mem_cons.mpr ⟨wT6 72 rfl, List.forall_mem_cons.mpr ⟨wT6 114 rfl, List.forall_mem_cons.mpr ⟨wT6 116 rfl, List.forall_mem_cons.mpr ⟨wT6 130 rfl, List.forall_mem_cons.mpr ⟨wT6 142 rfl, List.forall_mem_cons.mpr ⟨wT6 144 rfl, List.forall_mem_cons.mpr ⟨wT6 146 rfl, List.forall_mem_cons.mpr ⟨wT7 43 rfl, List.forall_mem_cons.mpr ⟨wT7 45 rfl, List.forall_mem_cons.mpr ⟨wT7 47 rfl, List.forall_mem_cons.mpr ⟨wT7 49 rfl, List.forall_mem_cons.mpr ⟨wT7 99 rfl, List.forall_mem_cons.mpr ⟨wT7 101 rfl, List.forall_mem_cons.mpr ⟨wT7 103 rfl, fun w h => absurd h List.not_mem_nil⟩⟩⟩⟩⟩⟩⟩⟩⟩⟩⟩⟩⟩⟩⟩⟩
def LYW_7 : List Cond := [(Jvm.Cond.lays "CavershamShiftModel" "CavershamShiftModel" "partner" "I"), (Jvm.Cond.lays "CavershamShiftModel" "CavershamShiftModel" "refused" "I"), (Jvm.Cond.lays "CavershamShiftModel" "CavershamShiftModel" "sendings" "I"), (Jvm.Cond.laysFinal "CavershamShiftModel" "CavershamShiftModel" "stations" "Ljava/util/List;"), (Jvm.Cond.laysFinal "CavershamShiftModel" "CavershamShiftModel" "jammers" "Ljava/util/List;"), (Jvm.Cond.laysFinal "CavershamShiftModel" "CavershamShiftModel" "monitors" "Ljava/util/List;"), (Jvm.Cond.laysFinal "CavershamShiftModel" "CavershamShiftModel" "talks" "Ljava/util/List;"), (Jvm.Cond.laysFinal "CavershamShiftModel" "CavershamShiftModel" "readers" "Ljava/util/List;"), (Jvm.Cond.lays "CavershamShiftModel" "CavershamShiftModel" "queue" "Ljava/util/List;"), (Jvm.Cond.laysFinal "CavershamShiftModel" "CavershamShiftModel" "heard" "[[I"), (Jvm.Cond.laysFinal "CavershamShiftModel" "CavershamShiftModel" "sits" "[[I"), (Jvm.Cond.laysFinal "CavershamShiftModel$Station" "CavershamShiftModel$Station" "power" "I"), (Jvm.Cond.laysFinal "CavershamShiftModel$Station" "CavershamShiftModel$Station" "far" "I"), (Jvm.Cond.laysFinal "CavershamShiftModel$Station" "CavershamShiftModel$Station" "land" "I"), (Jvm.Cond.laysFinal "CavershamShiftModel$Station" "CavershamShiftModel$Station" "tongue" "I"), (Jvm.Cond.laysFinal "CavershamShiftModel$Station" "CavershamShiftModel$Station" "hours" "I")]
set_option maxRecDepth 8000 in
theorem LYW_7_t : ∀ w ∈ LYW_7, w ∈ lw_tbl := List.forall_mem_cons.mpr ⟨wT7 105 rfl, List.forall_mem_cons.mpr ⟨wT7 107 rfl, List.forall_mem_cons.mpr ⟨wT7 109 rfl, List.forall_mem_cons.mpr ⟨wT7 111 rfl, List.forall_mem_cons.mpr ⟨wT7 113 rfl, List.forall_mem_cons.mpr ⟨wT7 115 rfl, List.forall_mem_cons.mpr ⟨wT7 117 rfl, List.forall_mem_cons.mpr ⟨wT7 119 rfl, List.forall_mem_cons.mpr ⟨wT7 121 rfl, List.forall_mem_cons.mpr ⟨wT7 123 rfl, List.forall_mem_cons.mpr ⟨wT7 125 rfl, List.forall_mem_cons.mpr ⟨wT7 170 rfl, List.forall_mem_cons.mpr ⟨wT7 172 rfl, List.forall_mem_cons.mpr ⟨wT7 174 rfl, List.forall_mem_cons.mpr ⟨wT7 176 rfl, List.forall_mem_cons.mpr ⟨wT7 178 rfl, fun w h => absurd h List.not_mem_nil⟩⟩⟩⟩⟩⟩⟩⟩⟩⟩⟩⟩⟩⟩⟩⟩
def LYW_8 : List Cond := [(Jvm.Cond.lays "CavershamShiftModel$Station" "CavershamShiftModel$Station" "band" "I"), (Jvm.Cond.laysFinal "CavershamShiftModel$Monitor" "CavershamShiftModel$Monitor" "skills" "[I"), (Jvm.Cond.lays "CavershamShiftModel$Monitor" "CavershamShiftModel$Monitor" "weary" "I"), (Jvm.Cond.lays "CavershamShiftModel$Monitor" "CavershamShiftModel$Monitor" "sat" "I"), (Jvm.Cond.lays "CavershamShiftModel$Monitor" "CavershamShiftModel$Monitor" "reports" "I"), (Jvm.Cond.laysFinal "CavershamShiftModel$Talk" "CavershamShiftModel$Talk" "station" "I"), (Jvm.Cond.laysFinal "CavershamShiftModel$Talk" "CavershamShiftModel$Talk" "hour" "I"), (Jvm.Cond.laysFinal "CavershamShiftModel$Talk" "CavershamShiftModel$Talk" "topic" "I"), (Jvm.Cond.laysFinal "CavershamShiftModel$Talk" "CavershamShiftModel$Talk" "words" "I"), (Jvm.Cond.laysFinal "CavershamShiftModel$Talk" "CavershamShiftModel$Talk" "weight" "I"), (Jvm.Cond.laysFinal "CavershamShiftModel$Talk" "CavershamShiftModel$Talk" "formulas" "I"), (Jvm.Cond.lays "CavershamShiftModel$Talk" "CavershamShiftModel$Talk" "print" "I"), (Jvm.Cond.lays "CavershamShiftModel$Talk" "CavershamShiftModel$Talk" "state" "I"), (Jvm.Cond.lays "CavershamShiftModel$Talk" "CavershamShiftModel$Talk" "quality" "I"), (Jvm.Cond.lays "CavershamShiftModel$Talk" "CavershamShiftModel$Talk" "set" "I"), (Jvm.Cond.lays "CavershamShiftModel$Talk" "CavershamShiftModel$Talk" "monitor" "I")]
set_option maxRecDepth 8000 in
theorem LYW_8_t : ∀ w ∈ LYW_8, w ∈ lw_tbl := List.forall_mem_cons.mpr ⟨wT7 180 rfl, List.forall_mem_cons.mpr ⟨wT7 230 rfl, List.forall_mem_cons.mpr ⟨wT7 232 rfl, List.forall_mem_cons.mpr ⟨wT7 234 rfl, List.forall_mem_cons.mpr ⟨wT7 236 rfl, List.forall_mem_cons.mpr ⟨wT8 53 rfl, List.forall_mem_cons.mpr ⟨wT8 55 rfl, List.forall_mem_cons.mpr ⟨wT8 57 rfl, List.forall_mem_cons.mpr ⟨wT8 59 rfl, List.forall_mem_cons.mpr ⟨wT8 61 rfl, List.forall_mem_cons.mpr ⟨wT8 63 rfl, List.forall_mem_cons.mpr ⟨wT8 65 rfl, List.forall_mem_cons.mpr ⟨wT8 67 rfl, List.forall_mem_cons.mpr ⟨wT8 69 rfl, List.forall_mem_cons.mpr ⟨wT8 71 rfl, List.forall_mem_cons.mpr ⟨wT8 73 rfl, fun w h => absurd h List.not_mem_nil⟩⟩⟩⟩⟩⟩⟩⟩⟩⟩⟩⟩⟩⟩⟩⟩
def LYW_9 : List Cond := [(Jvm.Cond.lays "CavershamShiftModel$Talk" "CavershamShiftModel$Talk" "sentAt" "I"), (Jvm.Cond.lays "CavershamShiftModel$Talk" "CavershamShiftModel$Talk" "order" "I"), (Jvm.Cond.lays "CavershamShiftModel$Talk" "CavershamShiftModel$Talk" "correction" "I"), (Jvm.Cond.laysStatic "java/lang/Integer$IntegerCache" "high" "I"), (Jvm.Cond.laysStatic "java/lang/Integer$IntegerCache" "cache" "[Ljava/lang/Integer;"), (Jvm.Cond.laysFinal "java/lang/Integer" "java/lang/Integer" "value" "I"), (Jvm.Cond.lays "CavershamShiftModel$Reader" "CavershamShiftModel$Reader" "lands" "I"), (Jvm.Cond.lays "CavershamShiftModel$Reader" "CavershamShiftModel$Reader" "topics" "I"), (Jvm.Cond.laysFinal "CavershamShiftModel$Reader" "CavershamShiftModel$Reader" "got" "[I")]
set_option maxRecDepth 8000 in
theorem LYW_9_t : ∀ w ∈ LYW_9, w ∈ lw_tbl := List.forall_mem_cons.mpr ⟨wT8 75 rfl, List.forall_mem_cons.mpr ⟨wT8 77 rfl, List.forall_mem_cons.mpr ⟨wT8 79 rfl, List.forall_mem_cons.mpr ⟨wT8 116 rfl, List.forall_mem_cons.mpr ⟨wT8 118 rfl, List.forall_mem_cons.mpr ⟨wT8 129 rfl, List.forall_mem_cons.mpr ⟨wT8 151 rfl, List.forall_mem_cons.mpr ⟨wT8 153 rfl, List.forall_mem_cons.mpr ⟨wT8 155 rfl, fun w h => absurd h List.not_mem_nil⟩⟩⟩⟩⟩⟩⟩⟩⟩
def LYW : List Cond := LYW_0 ++ LYW_1 ++ LYW_2 ++ LYW_3 ++ LYW_4 ++ LYW_5 ++ LYW_6 ++ LYW_7 ++ LYW_8 ++ LYW_9
theorem LYW_t : ∀ w ∈ LYW, w ∈ lw_tbl := fun w h => by
  simp only [LYW, List.mem_append] at h
  rcases h with ((((((((h | h) | h) | h) | h) | h) | h) | h) | h) | h
  · exact LYW_0_t w h
  · exact LYW_1_t w h
  · exact LYW_2_t w h
  · exact LYW_3_t w h
  · exact LYW_4_t w h
  · exact LYW_5_t w h
  · exact LYW_6_t w h
  · exact LYW_7_t w h
  · exact LYW_8_t w h
  · exact LYW_9_t w h
theorem in_0 : ∀ w ∈ u_ws RX0 TX0 2, w ∈ ALLW := fun w hw => wAll (LYW_t w ((by decide +kernel : ∀ w ∈ u_ws RX0 TX0 2, w ∈ LYW) w hw)) ((by decide +kernel : ∀ w ∈ u_ws RX0 TX0 2, goodWord w = true) w hw)
theorem in_1 : ∀ w ∈ u_ws RX1 TX1 2, w ∈ ALLW := fun w hw => wAll (LYW_t w ((by decide +kernel : ∀ w ∈ u_ws RX1 TX1 2, w ∈ LYW) w hw)) ((by decide +kernel : ∀ w ∈ u_ws RX1 TX1 2, goodWord w = true) w hw)
theorem in_2 : ∀ w ∈ u_ws RX2 TX2 5, w ∈ ALLW := fun w hw => wAll (LYW_t w ((by decide +kernel : ∀ w ∈ u_ws RX2 TX2 5, w ∈ LYW) w hw)) ((by decide +kernel : ∀ w ∈ u_ws RX2 TX2 5, goodWord w = true) w hw)
theorem in_3 : ∀ w ∈ u_ws RX3 TX3 4, w ∈ ALLW := fun w hw => wAll (LYW_t w ((by decide +kernel : ∀ w ∈ u_ws RX3 TX3 4, w ∈ LYW) w hw)) ((by decide +kernel : ∀ w ∈ u_ws RX3 TX3 4, goodWord w = true) w hw)
theorem in_4 : ∀ w ∈ u_ws RX4 TX4 7, w ∈ ALLW := fun w hw => wAll (LYW_t w ((by decide +kernel : ∀ w ∈ u_ws RX4 TX4 7, w ∈ LYW) w hw)) ((by decide +kernel : ∀ w ∈ u_ws RX4 TX4 7, goodWord w = true) w hw)
theorem in_5 : ∀ w ∈ u_ws RX5 TX5 3, w ∈ ALLW := fun w hw => wAll (LYW_t w ((by decide +kernel : ∀ w ∈ u_ws RX5 TX5 3, w ∈ LYW) w hw)) ((by decide +kernel : ∀ w ∈ u_ws RX5 TX5 3, goodWord w = true) w hw)
theorem in_6 : ∀ w ∈ u_ws RX6 TX6 13, w ∈ ALLW := fun w hw => wAll (LYW_t w ((by decide +kernel : ∀ w ∈ u_ws RX6 TX6 13, w ∈ LYW) w hw)) ((by decide +kernel : ∀ w ∈ u_ws RX6 TX6 13, goodWord w = true) w hw)
theorem in_7 : ∀ w ∈ u_ws RX7 TX7 4, w ∈ ALLW := fun w hw => wAll (LYW_t w ((by decide +kernel : ∀ w ∈ u_ws RX7 TX7 4, w ∈ LYW) w hw)) ((by decide +kernel : ∀ w ∈ u_ws RX7 TX7 4, goodWord w = true) w hw)
theorem in_8 : ∀ w ∈ u_ws RX8 TX8 7, w ∈ ALLW := fun w hw => wAll (LYW_t w ((by decide +kernel : ∀ w ∈ u_ws RX8 TX8 7, w ∈ LYW) w hw)) ((by decide +kernel : ∀ w ∈ u_ws RX8 TX8 7, goodWord w = true) w hw)
theorem in_9 : ∀ w ∈ u_ws RX9 TX9 9, w ∈ ALLW := fun w hw => wAll (LYW_t w ((by decide +kernel : ∀ w ∈ u_ws RX9 TX9 9, w ∈ LYW) w hw)) ((by decide +kernel : ∀ w ∈ u_ws RX9 TX9 9, goodWord w = true) w hw)
theorem in_10 : ∀ w ∈ u_ws RX10 TX10 6, w ∈ ALLW := fun w hw => wAll (LYW_t w ((by decide +kernel : ∀ w ∈ u_ws RX10 TX10 6, w ∈ LYW) w hw)) ((by decide +kernel : ∀ w ∈ u_ws RX10 TX10 6, goodWord w = true) w hw)
theorem in_11 : ∀ w ∈ u_ws RX11 TX11 3, w ∈ ALLW := fun w hw => wAll (LYW_t w ((by decide +kernel : ∀ w ∈ u_ws RX11 TX11 3, w ∈ LYW) w hw)) ((by decide +kernel : ∀ w ∈ u_ws RX11 TX11 3, goodWord w = true) w hw)
theorem in_12 : ∀ w ∈ u_ws RX12 TX12 4, w ∈ ALLW := fun w hw => wAll (LYW_t w ((by decide +kernel : ∀ w ∈ u_ws RX12 TX12 4, w ∈ LYW) w hw)) ((by decide +kernel : ∀ w ∈ u_ws RX12 TX12 4, goodWord w = true) w hw)
theorem in_13 : ∀ w ∈ u_ws RX13 TX13 3, w ∈ ALLW := fun w hw => wAll (LYW_t w ((by decide +kernel : ∀ w ∈ u_ws RX13 TX13 3, w ∈ LYW) w hw)) ((by decide +kernel : ∀ w ∈ u_ws RX13 TX13 3, goodWord w = true) w hw)
theorem in_14 : ∀ w ∈ u_ws RX14 TX14 6, w ∈ ALLW := fun w hw => wAll (LYW_t w ((by decide +kernel : ∀ w ∈ u_ws RX14 TX14 6, w ∈ LYW) w hw)) ((by decide +kernel : ∀ w ∈ u_ws RX14 TX14 6, goodWord w = true) w hw)
theorem in_15 : ∀ w ∈ u_ws RX15 TX15 14, w ∈ ALLW := fun w hw => wAll (LYW_t w ((by decide +kernel : ∀ w ∈ u_ws RX15 TX15 14, w ∈ LYW) w hw)) ((by decide +kernel : ∀ w ∈ u_ws RX15 TX15 14, goodWord w = true) w hw)
theorem in_16 : ∀ w ∈ u_ws RX16 TX16 14, w ∈ ALLW := fun w hw => wAll (LYW_t w ((by decide +kernel : ∀ w ∈ u_ws RX16 TX16 14, w ∈ LYW) w hw)) ((by decide +kernel : ∀ w ∈ u_ws RX16 TX16 14, goodWord w = true) w hw)
theorem in_17 : ∀ w ∈ u_ws RJx4a65c TJx4a65c 3, w ∈ ALLW := fun w hw => wAll (LYW_t w ((by decide +kernel : ∀ w ∈ u_ws RJx4a65c TJx4a65c 3, w ∈ LYW) w hw)) ((by decide +kernel : ∀ w ∈ u_ws RJx4a65c TJx4a65c 3, goodWord w = true) w hw)
theorem in_18 : ∀ w ∈ u_ws RJ4 TJ4 4, w ∈ ALLW := fun w hw => wAll (LYW_t w ((by decide +kernel : ∀ w ∈ u_ws RJ4 TJ4 4, w ∈ LYW) w hw)) ((by decide +kernel : ∀ w ∈ u_ws RJ4 TJ4 4, goodWord w = true) w hw)
theorem in_19 : ∀ w ∈ u_ws RJ0 TJ0 4, w ∈ ALLW := fun w hw => wAll (LYW_t w ((by decide +kernel : ∀ w ∈ u_ws RJ0 TJ0 4, w ∈ LYW) w hw)) ((by decide +kernel : ∀ w ∈ u_ws RJ0 TJ0 4, goodWord w = true) w hw)
theorem in_20 : ∀ w ∈ u_ws RJ6 TJ6 1, w ∈ ALLW := fun w hw => wAll (LYW_t w ((by decide +kernel : ∀ w ∈ u_ws RJ6 TJ6 1, w ∈ LYW) w hw)) ((by decide +kernel : ∀ w ∈ u_ws RJ6 TJ6 1, goodWord w = true) w hw)
/-! the heap by roles: an object or array is the role (t, i): t its kind (below 21 a class of CL, from 30 on arrays), i its number.
V: which roles stand; G: their addresses; I, R, L, D: fields by code (16 t + k) and i; N: lengths; A, B: what arrays hold -/
abbrev HS : Type := (Nat → Nat → Prop) × (Nat → Nat → Nat) × (Nat → Nat → Int32) × (Nat → Nat → Option Nat) × (Nat → Nat → Nat) × (Nat → Nat → Nat → Int32) × (Nat → Nat → Nat → Option Nat) × (Nat → Int64) × (Nat → UInt64)
def vV (S : HS) : Nat → Nat → Prop := S.1
def gG (S : HS) : Nat → Nat → Nat := S.2.1
def mI (S : HS) : Nat → Nat → Int32 := S.2.2.1
def mR (S : HS) : Nat → Nat → Option Nat := S.2.2.2.1
def mN (S : HS) : Nat → Nat → Nat := S.2.2.2.2.1
def mA (S : HS) : Nat → Nat → Nat → Int32 := S.2.2.2.2.2.1
def mB (S : HS) : Nat → Nat → Nat → Option Nat := S.2.2.2.2.2.2.1
def mL (S : HS) : Nat → Int64 := S.2.2.2.2.2.2.2.1
def mD (S : HS) : Nat → UInt64 := S.2.2.2.2.2.2.2.2
def up2 {α : Type} (f : Nat → Nat → α) (a b : Nat) (v : α) : Nat → Nat → α := fun x y => if x = a ∧ y = b then v else f x y
theorem up2_s {α : Type} (f : Nat → Nat → α) (a b : Nat) (v : α) : up2 f a b v a b = v := if_pos ⟨rfl, rfl⟩
theorem up2_n {α : Type} {f : Nat → Nat → α} {a b x y : Nat} {v : α} (h : ¬ (x = a ∧ y = b)) : up2 f a b v x y = f x y := if_neg h
def sI (S : HS) (f i : Nat) (v : Int32) : HS := (S.1, S.2.1, up2 S.2.2.1 f i v, S.2.2.2)
def sR (S : HS) (f i : Nat) (v : Option Nat) : HS := (S.1, S.2.1, S.2.2.1, up2 S.2.2.2.1 f i v, S.2.2.2.2)
def sA (S : HS) (t i : Nat) (v : Nat → Int32) : HS := (S.1, S.2.1, S.2.2.1, S.2.2.2.1, S.2.2.2.2.1, up2 S.2.2.2.2.2.1 t i v, S.2.2.2.2.2.2)
def sB (S : HS) (t i : Nat) (v : Nat → Option Nat) : HS := (S.1, S.2.1, S.2.2.1, S.2.2.2.1, S.2.2.2.2.1, S.2.2.2.2.2.1, up2 S.2.2.2.2.2.2.1 t i v, S.2.2.2.2.2.2.2)
def sL (S : HS) (f : Nat) (v : Int64) : HS := (S.1, S.2.1, S.2.2.1, S.2.2.2.1, S.2.2.2.2.1, S.2.2.2.2.2.1, S.2.2.2.2.2.2.1, (fun g => if g = f then v else S.2.2.2.2.2.2.2.1 g), S.2.2.2.2.2.2.2.2)
def sD (S : HS) (f : Nat) (v : UInt64) : HS := (S.1, S.2.1, S.2.2.1, S.2.2.2.1, S.2.2.2.2.1, S.2.2.2.2.2.1, S.2.2.2.2.2.2.1, S.2.2.2.2.2.2.2.1, (fun g => if g = f then v else S.2.2.2.2.2.2.2.2 g))
/-- a new object of class t, its number i, at the address q -/
def sNew (S : HS) (t i q : Nat) : HS := ((fun t' i' => S.1 t' i' ∨ (t' = t ∧ i' = i)), up2 S.2.1 t i q, (fun f i' => if f / 16 = t ∧ i' = i then 0 else S.2.2.1 f i'), (fun f i' => if f / 16 = t ∧ i' = i then none else S.2.2.2.1 f i'), S.2.2.2.2.1, S.2.2.2.2.2.1, S.2.2.2.2.2.2.1, (fun f => if f / 16 = t then 0 else S.2.2.2.2.2.2.2.1 f), (fun f => if f / 16 = t then 0 else S.2.2.2.2.2.2.2.2 f))
/-- a new array of kind t, of n places -/
def sArr (S : HS) (t i q n : Nat) : HS := ((fun t' i' => S.1 t' i' ∨ (t' = t ∧ i' = i)), up2 S.2.1 t i q, S.2.2.1, S.2.2.2.1, up2 S.2.2.2.2.1 t i n, up2 S.2.2.2.2.2.1 t i (fun _ => 0), up2 S.2.2.2.2.2.2.1 t i (fun _ => none), S.2.2.2.2.2.2.2)
/-- the roles that P names are no longer told of -/
def sDrop (S : HS) (P : Nat → Nat → Prop) : HS := ((fun t i => S.1 t i ∧ ¬ P t i), S.2)
def fval (S : HS) (f i : Nat) : Value := match tyF f with
  | 0 => .int (mI S f i)
  | 1 => va_rf (mR S f i)
  | 2 => .long (mL S f)
  | _ => .double (mD S f)
def isRefA (t : Nat) : Bool := t == 30 || t == 31 || t == 38 || t == 41
/-- which of the array classes a kind has -/
def akL : List Nat := [0, 0, 1, 1, 1, 1, 1, 1, 4, 1, 2, 5, 3]
def ak (t : Nat) : Nat := akL.getD (t - 30) 0
def cellM (cy : Nat → ClassId) (S : HS) (t i : Nat) : va_E := if t < 21 then .inr (t, (List.range (nf t)).map (fun k => fval S (16 * t + k) i)) else if isRefA t then .inl (cy (ak t), mN S t i, .inr (.inr (.inr (.inr (mB S t i))))) else .inl (cy (ak t), mN S t i, .inl (mA S t i))
abbrev TY (cy : Nat → ClassId) : List (ClassId × FieldType) := [(cy 0, .object "java/lang/Object"), (cy 1, .int), (cy 2, .boolean), (cy 3, .byte), (cy 4, .array .int), (cy 5, .object "java/lang/String")]
def A0 (s0 : State) : Nat → Prop := fun q => s0.heap.size ≤ q
/-- the texts of the tables: class, index, text; where each lies -/
def strOf : Cond → Option (String × Nat × String)
  | .stringRef o k t => some (o, k, t)
  | _ => none
def STRL : List (String × Nat × String) := lw_tbl.filterMap strOf
theorem str_in {o : String} {k : Nat} {t : String} (h : Cond.stringRef o k t ∈ lw_tbl) : (o, k, t) ∈ STRL := List.mem_filterMap.mpr ⟨_, h, rfl⟩
def saOf (s0 : State) (o : String) (k : Nat) : Nat := match (Term.string o k).eval #[] s0 none [] s0 with
  | some (.ref a) => a
  | _ => 0
/-- U stands behind s0: the same tables, and what lay at s0 lies there still -/
def Bs (s0 U : State) : Prop := s0.vm.Alike U.vm ∧ s0.heap.size ≤ U.heap.size ∧ (∀ q : Nat, q < s0.heap.size → U.heap[q]? = s0.heap[q]?) ∧ (∀ w ∈ NSTW, va_Nw w U) ∧ ∀ x ∈ STRL, vk_R x.1 x.2.1 x.2.2 (saOf s0 x.1 x.2.1) U
/-- what is given once and for all of the start -/
def Gl (s0 : State) (l : Launch) (D : va_G) (cy : Nat → ClassId) : Prop := va_K D CL (TY cy) s0 ∧ l.stackTraces = false ∧ ∃ b : Nat, (∀ w ∈ lw_tbl, w.before #[Value.ref b] s0 = true) ∧ (Jvm.Cond.and given_1 narrow_1).before #[Value.ref b] s0 = true
def WP (s0 : State) (D : va_G) (cy : Nat → ClassId) (S : HS) (H : Heap) : Prop := (∃ ws : va_W, va_P D CL ws H ∧ va_D (A0 s0) ws ∧ ∀ t i, vV S t i → (gG S t i, cellM cy S t i) ∈ ws) ∧ ∀ t i t' i', vV S t i → vV S t' i' → gG S t i = gG S t' i' → t = t' ∧ i = i'
def Wd (s0 : State) (D : va_G) (cy : Nat → ClassId) (S : HS) (H0 H : Heap) (locs : List Loc) : Prop := WP s0 D cy S H ∧ va_S (A0 s0) H0 H locs
/-- what holds all through a method's body -/
def Cx (s0 : State) (l : Launch) (D : va_G) (cy : Nat → ClassId) (p : Program) (s : State) (m : MethodId) (args : Array Value) (meth : Method) (c : Code) (cc : ByteArray) (nL : Nat) (own : String) (ret : Option FieldType) : Prop :=
  p.tables.exec = Jvm.exec ∧ c.code = cc ∧ c.maxLocals = nL ∧ s.vm.findClass own = some m.cls ∧ (∀ w ∈ ALLW, w.before args s = true) ∧ meth.sig.returnType = ret ∧ meth.locks = false ∧ va_K D CL (TY cy) s ∧ Bs s0 s ∧ Gl s0 l D cy
def GQ (s0 : State) (D : va_G) (cy : Nat → ClassId) (post : Option Value → HS → Prop) : Array Value → State → Outcome → State → Prop := fun _ st oc t => (∃ (v : Option Value) (S' : HS), oc = .returned v ∧ post v S' ∧ WP s0 D cy S' t.heap) ∧ va_F (A0 s0) st t
/-- the contract of a method that returns: from the state S, with the arguments As, to an answer and a state of which post holds -/
def Ctr (s0 : State) (l : Launch) (D : va_G) (cy : Nat → ClassId) (y : MethodName) (cc : ByteArray) (n : Nat) (ret : Option FieldType) (rm : Room) (S : HS) (As : List Value) (post : Option Value → HS → Prop) : Prop :=
  Met l y (Cond.code y cc n ret :: ALLW) rm (va_Pc As (fun U => Bs s0 U ∧ WP s0 D cy S U.heap)) (GQ s0 D cy post) rm.cells rm.slots (A0 s0)
theorem cell_obj {cy : Nat → ClassId} {S : HS} {t i : Nat} (h : t < 21) : cellM cy S t i = .inr (t, (List.range (nf t)).map (fun k => fval S (16 * t + k) i)) := if_pos h
theorem fv_sI {S : HS} {f i : Nat} {x : Int32} (h : tyF f = 0) : fval (sI S f i x) f i = .int x := by unfold fval; rw [h]; show Value.int (up2 _ f i x f i) = _; rw [up2_s]
theorem fv_sR {S : HS} {f i : Nat} {x : Option Nat} (h : tyF f = 1) : fval (sR S f i x) f i = va_rf x := by unfold fval; rw [h]; show va_rf (up2 _ f i x f i) = _; rw [up2_s]
theorem fv_sI_ne {S : HS} {f i g j : Nat} {x : Int32} (h : ¬ (g = f ∧ j = i)) : fval (sI S f i x) g j = fval S g j := by
  unfold fval
  have e : mI (sI S f i x) g j = mI S g j := up2_n h
  rw [e]; rfl
theorem fv_sR_ne {S : HS} {f i g j : Nat} {x : Option Nat} (h : ¬ (g = f ∧ j = i)) : fval (sR S f i x) g j = fval S g j := by
  unfold fval
  have e : mR (sR S f i x) g j = mR S g j := up2_n h
  rw [e]; rfl
theorem nar_z {x : Int32} (h : x = 0 ∨ x = 1) : narrow .boolean (.int x) = .int x := by rcases h with rfl | rfl <;> rfl
theorem nar_o {C : String} (x : Option Nat) : narrow (.object C) (va_rf x) = va_rf x := by cases x <;> rfl
theorem fit_o {C : String} (x : Option Nat) : fits (.object C) (va_rf x) = true := by cases x <;> rfl
theorem nar_a {T : FieldType} (x : Option Nat) : narrow (.array T) (va_rf x) = va_rf x := by cases x <;> rfl
theorem fit_a {T : FieldType} (x : Option Nat) : fits (.array T) (va_rf x) = true := by cases x <;> rfl
theorem rng_get {α : Type} (g : Nat → α) {n k : Nat} (h : k < n) : ((List.range n).map g)[k]? = some (g k) := by simp [h]
theorem rng_set {α : Type} (g g' : Nat → α) {n k : Nat} (h : ∀ j, j < n → j ≠ k → g' j = g j) : ((List.range n).map g).set k (g' k) = (List.range n).map g' := by
  apply List.ext_getElem?
  intro j
  by_cases hj : j < n
  · by_cases e : j = k
    · subst e
      rw [List.getElem?_set_self (by simpa using hj)]
      simp [hj]
    · rw [List.getElem?_set_ne (Ne.symm e)]
      simp [hj, h j hj e]
  · rw [List.getElem?_eq_none (by simpa using Nat.le_of_not_lt hj), List.getElem?_eq_none (by simpa using Nat.le_of_not_lt hj)]
theorem Wd.at {s0 : State} {D : va_G} {cy : Nat → ClassId} {S : HS} {H0 H : Heap} {locs : List Loc} (w : Wd s0 D cy S H0 H locs) {t i : Nat} (hV : vV S t i) : ∃ (ws : va_W) (k : Nat), va_P D CL ws H ∧ va_D (A0 s0) ws ∧ ws[k]? = some (gG S t i, cellM cy S t i) ∧ ∀ t i, vV S t i → (gG S t i, cellM cy S t i) ∈ ws := by
  obtain ⟨⟨⟨ws, hP, hD, hm⟩, -⟩, -⟩ := w
  obtain ⟨k, hk⟩ := List.getElem?_of_mem (hm t i hV)
  exact ⟨ws, k, hP, hD, hk, hm⟩
/-- the world behind a store into the role (t, i) -/
theorem WP.put {s0 : State} {D : va_G} {cy : Nat → ClassId} {S S' : HS} {H1 : Heap} {ws : va_W} {t i k : Nat} {e1 : va_E} (inj : ∀ t i t' i', vV S t i → vV S t' i' → gG S t i = gG S t' i' → t = t' ∧ i = i') (hD : va_D (A0 s0) ws) (hV : vV S t i) (hk : ws[k]? = some (gG S t i, cellM cy S t i)) (hm : ∀ t i, vV S t i → (gG S t i, cellM cy S t i) ∈ ws)
    (hP1 : va_P D CL (ws.set k (gG S t i, e1)) H1) (hD1 : va_D (A0 s0) (ws.set k (gG S t i, e1))) (eV : vV S' = vV S) (eG : gG S' = gG S) (he : cellM cy S' t i = e1) (ho : ∀ t' i', ¬ (t' = t ∧ i' = i) → cellM cy S' t' i' = cellM cy S t' i') : WP s0 D cy S' H1 := by
  refine ⟨⟨_, hP1, hD1, fun t' i' h => ?_⟩, fun a b a' b' h h' hg => ?_⟩
  · rw [eV] at h
    rw [eG]
    by_cases q : t' = t ∧ i' = i
    · obtain ⟨rfl, rfl⟩ := q
      rw [he]
      exact List.mem_of_getElem? (List.getElem?_set_self (List.getElem?_eq_some_iff.mp hk).1)
    · rw [ho t' i' q]
      obtain ⟨k', hk'⟩ := List.getElem?_of_mem (hm t' i' h)
      refine List.mem_of_getElem? (i := k') ?_
      rw [List.getElem?_set_ne ?_]
      · exact hk'
      · intro z
        subst z
        have := hk.symm.trans hk'
        have e1 : gG S t i = gG S t' i' := congrArg (fun q => q.1) (Option.some.inj this)
        obtain ⟨rfl, rfl⟩ := inj t i t' i' hV h e1
        exact q ⟨rfl, rfl⟩
  · rw [eV] at h h'
    rw [eG] at hg
    exact inj a b a' b' h h' hg
theorem nf_le (t : Nat) : nf t ≤ 16 := by
  unfold nf
  rw [List.getD_eq_getElem?_getD]
  cases h : nfL[t]? with
  | none => simp
  | some x =>
    have hx : x ∈ nfL := List.mem_of_getElem? h
    have : ∀ x ∈ nfL, x ≤ 16 := by decide
    simpa using this x hx
section CORE
variable {p : Program} {l : Launch} {e : Env} {R : Room} {s : State} {m : MethodId} {args : Array Value} {below : List Frame} {meth : Method} {c : Code} {H : Heap} {locs : List Loc} {cells slots : Nat} {Q : State → Prop} {cc : ByteArray} {pc nL : Nat} {ls : Array Slot} {rest : List Value} {s0 : State} {D : va_G} {cy : Nat → ClassId} {S : HS} {own : String} {ret : Option FieldType}
theorem gF {t k i index : Nat} {ref nm ds C : String} {T : u_T} {v : Value} (X : Cx s0 l D cy p s m args meth c cc nL own ret) (w : Wd s0 D cy S s.heap H locs) (hV : vV S t i) (ht : t < 21) (hc : CL[t]? = some (C, T, nf t)) (hk : k < nf t) (hin : ∀ w ∈ u_ws C T (nf t), w ∈ ALLW) (h1 : (T k).1 = ref) (h2 : (T k).2.1 = nm) (h3 : (T k).2.2.1 = ds) (hl : Cond.fieldLink own index ref nm ds ∈ ALLW) (hv : fval S (16 * t + k) i = v) (hdg : decode cc pc = .ok (.getfield index, 3))
    (kk : W p l e R s m args below meth c H locs cells slots Q (F0 m (pc + 3) ls (v :: rest))) : W p l e R s m args below meth c H locs cells slots Q (F0 m pc ls (.ref (gG S t i) :: rest)) := by
  obtain ⟨ws, q0, hP, hD, hq, hm⟩ := w.at hV
  rw [cell_obj ht] at hq
  subst h1; subst h2; subst h3
  exact va_get X.1 X.2.1 X.2.2.2.2.1 hin X.2.2.2.1 X.2.2.2.2.2.2.2.1 hP q0 hq hc k hk (X.2.2.2.2.1 _ hl) (fun _ h => h) (by rw [rng_get _ hk, hv]) hdg kk
theorem pF {t k i index : Nat} {ref nm ds C : String} {T : u_T} {S' : HS} {v : Value} {ty : FieldType} (X : Cx s0 l D cy p s m args meth c cc nL own ret) (w : Wd s0 D cy S s.heap H locs) (hV : vV S t i) (ht : t < 21) (hc : CL[t]? = some (C, T, nf t)) (hk : k < nf t) (hin : ∀ w ∈ u_ws C T (nf t), w ∈ ALLW) (h1 : (T k).1 = ref) (h2 : (T k).2.1 = nm) (h3 : (T k).2.2.1 = ds) (hfin : (T k).2.2.2 = false) (hl : Cond.fieldLink own index ref nm ds ∈ ALLW) (ty0 : Nat → FieldType) (hty : ∀ k, k < nf t → parseFieldDescriptor (T k).2.2.1 = some (ty0 k)) (hnm : ∀ a, a < nf t → ∀ b, b < nf t → a ≠ b → (T a).2.1 ≠ (T b).2.1) (hd : parseFieldDescriptor (T k).2.2.1 = some ty) (hn : narrow ty v = v) (hfit : fits ty v = true)
    (ho : ∀ f j, ¬ (f = 16 * t + k ∧ j = i) → fval S' f j = fval S f j) (hs : fval S' (16 * t + k) i = v) (hdg : decode cc pc = .ok (.putfield index, 3))
    (kk : ∀ (H1 : Heap) (locs1 : List Loc), Wd s0 D cy S' s.heap H1 locs1 → W p l e R s m args below meth c H1 locs1 cells slots Q (F0 m (pc + 3) ls rest)) (hSame : vV S' = vV S ∧ gG S' = gG S ∧ mN S' = mN S ∧ mA S' = mA S ∧ mB S' = mB S := by exact ⟨rfl, rfl, rfl, rfl, rfl⟩) : W p l e R s m args below meth c H locs cells slots Q (F0 m pc ls (v :: .ref (gG S t i) :: rest)) := by
  obtain ⟨ws, q0, hP, hD, hq, hm⟩ := w.at hV
  have hq' := hq
  rw [cell_obj ht] at hq
  subst h1; subst h2; subst h3
  refine va_put X.1 X.2.1 X.2.2.2.2.1 hin ty0 hty hnm X.2.2.2.1 X.2.2.2.2.2.2.2.1 hP hD w.2 q0 hq hc k hk (X.2.2.2.2.1 _ hl) (fun _ h => h) hfin hd hn hfit (by simpa using hk) hdg (fun H1 locs1 a b c' => ?_)
  refine kk H1 locs1 ⟨WP.put w.1.2 hD hV hq' hm a b hSame.1 hSame.2.1 ?_ (fun t' i' h => ?_), c'⟩
  · rw [cell_obj ht, ← hs, rng_set (fun k => fval S (16 * t + k) i) (fun k => fval S' (16 * t + k) i) (fun j hj h => ho _ _ (fun z => h (by omega)))]
  · unfold cellM
    rw [hSame.2.2.1, hSame.2.2.2.1, hSame.2.2.2.2]
    by_cases h21 : t' < 21
    · rw [if_pos h21, if_pos h21]
      congr 2
      apply List.map_congr_left
      intro j hj
      have hj16 : j < 16 := Nat.lt_of_lt_of_le (List.mem_range.mp hj) (nf_le t')
      have hk16 : k < 16 := Nat.lt_of_lt_of_le hk (nf_le t)
      exact ho _ _ (fun z => h ⟨by omega, z.2⟩)
    · rw [if_neg h21, if_neg h21]
theorem pFf {t k i index : Nat} {ref nm ds C : String} {T : u_T} {S' : HS} {v : Value} {ty : FieldType} (X : Cx s0 l D cy p s m args meth c cc nL own ret) (w : Wd s0 D cy S s.heap H locs) (hin2 : meth.name = "<init>") (hV : vV S t i) (ht : t < 21) (hc : CL[t]? = some (C, T, nf t)) (hk : k < nf t) (hin : ∀ w ∈ u_ws C T (nf t), w ∈ ALLW) (h1 : (T k).1 = ref) (h2 : (T k).2.1 = nm) (h3 : (T k).2.2.1 = ds) (hfin : (T k).2.2.2 = true) (hl : Cond.fieldLink own index ref nm ds ∈ ALLW) (ty0 : Nat → FieldType) (hty : ∀ k, k < nf t → parseFieldDescriptor (T k).2.2.1 = some (ty0 k)) (hnm : ∀ a, a < nf t → ∀ b, b < nf t → a ≠ b → (T a).2.1 ≠ (T b).2.1) (hd : parseFieldDescriptor (T k).2.2.1 = some ty) (hn : narrow ty v = v) (hfit : fits ty v = true)
    (ho : ∀ f j, ¬ (f = 16 * t + k ∧ j = i) → fval S' f j = fval S f j) (hs : fval S' (16 * t + k) i = v) (hdg : decode cc pc = .ok (.putfield index, 3))
    (kk : ∀ (H1 : Heap) (locs1 : List Loc), Wd s0 D cy S' s.heap H1 locs1 → W p l e R s m args below meth c H1 locs1 cells slots Q (F0 m (pc + 3) ls rest)) (hSame : vV S' = vV S ∧ gG S' = gG S ∧ mN S' = mN S ∧ mA S' = mA S ∧ mB S' = mB S := by exact ⟨rfl, rfl, rfl, rfl, rfl⟩) (hdecl : (T k).1 = own := by rfl) : W p l e R s m args below meth c H locs cells slots Q (F0 m pc ls (v :: .ref (gG S t i) :: rest)) := by
  obtain ⟨ws, q0, hP, hD, hq, hm⟩ := w.at hV
  have hq' := hq
  rw [cell_obj ht] at hq
  subst h1; subst h2; subst h3
  refine va_putF X.1 X.2.1 X.2.2.2.2.1 hin ty0 hty hnm X.2.2.2.1 X.2.2.2.2.2.2.2.1 hP hD w.2 q0 hq hc k hk (X.2.2.2.2.1 _ hl) (fun _ h => h) hfin hin2 hdecl hd hn hfit (by simpa using hk) hdg (fun H1 locs1 a b c' => ?_)
  refine kk H1 locs1 ⟨WP.put w.1.2 hD hV hq' hm a b hSame.1 hSame.2.1 ?_ (fun t' i' h => ?_), c'⟩
  · rw [cell_obj ht, ← hs, rng_set (fun k => fval S (16 * t + k) i) (fun k => fval S' (16 * t + k) i) (fun j hj h => ho _ _ (fun z => h (by omega)))]
  · unfold cellM
    rw [hSame.2.2.1, hSame.2.2.2.1, hSame.2.2.2.2]
    by_cases h21 : t' < 21
    · rw [if_pos h21, if_pos h21]
      congr 2
      apply List.map_congr_left
      intro j hj
      have hj16 : j < 16 := Nat.lt_of_lt_of_le (List.mem_range.mp hj) (nf_le t')
      have hk16 : k < 16 := Nat.lt_of_lt_of_le hk (nf_le t)
      exact ho _ _ (fun z => h ⟨by omega, z.2⟩)
    · rw [if_neg h21, if_neg h21]
end CORE


