/-! WHAT STANDS WHERE: 100 the board, 101 the present situation, 113 the trial, 125 the trail, 127 the history, 129 the paths, 132 the clock, 133 the bytes, 134 the tokens, 135 and 136 the readers, 137 the text; 138 the reference, 139 its present row, 140 its draft, 141 what is aside, 142 its snapshot, 143 its history, 144 far, 145 its queue, 146 its text, 147 its bytes, 148 names, 149 codes, 150 its stack; 151 what the law reads -/
def w_Z (S : am_S) : Prop := am_k S 138 = 11 ∧ am_k S 139 = 20 ∧ am_k S 140 = 20 ∧ am_k S 141 = 20 ∧ am_k S 142 = 20 ∧ am_k S 143 = 20 ∧ am_k S 144 = 20 ∧ am_k S 145 = 20 ∧ am_k S 146 = 20 ∧ am_k S 147 = 20 ∧ am_k S 148 = 24 ∧ am_k S 149 = 20 ∧ am_k S 150 = 21 ∧ am_k S 151 = 21 ∧ am_l S 139 = 3934 ∧ am_l S 140 = 3934 ∧ am_l S 141 = 3934 ∧ am_l S 142 = 3934 ∧ am_l S 143 = 39340 ∧ am_l S 144 = 144 ∧ am_l S 145 = 144 ∧ am_l S 146 = 12 ∧ am_l S 147 = 600 ∧ am_l S 148 = 9 ∧ am_l S 149 = 200 ∧ am_l S 150 = 200 ∧ am_l S 151 = 1 ∧ am_r S 138 0 = some 139 ∧ am_r S 138 1 = some 140 ∧ am_r S 138 2 = some 141 ∧ am_r S 138 3 = some 142 ∧ am_r S 138 4 = some 143 ∧ am_r S 138 8 = some 144 ∧ am_r S 138 9 = some 145 ∧ am_r S 138 10 = some 146 ∧ am_r S 138 12 = some 147 ∧ am_r S 138 24 = some 148 ∧ am_r S 138 25 = some 149 ∧ am_r S 138 26 = some 150 ∧ am_r S 148 0 = some 23 ∧ am_r S 148 1 = some 5 ∧ am_r S 148 2 = some 24 ∧ am_r S 148 3 = some 25 ∧ am_r S 148 4 = some 26 ∧ am_r S 148 5 = some 27 ∧ am_r S 148 6 = some 28 ∧ am_r S 148 7 = some 29 ∧ am_r S 148 8 = some 30
theorem zk138 {S : am_S} (h : w_Z S) : am_k S 138 = 11 := h.1
theorem zk139 {S : am_S} (h : w_Z S) : am_k S 139 = 20 := h.2.1
theorem zk140 {S : am_S} (h : w_Z S) : am_k S 140 = 20 := h.2.2.1
theorem zk141 {S : am_S} (h : w_Z S) : am_k S 141 = 20 := h.2.2.2.1
theorem zk142 {S : am_S} (h : w_Z S) : am_k S 142 = 20 := h.2.2.2.2.1
theorem zk143 {S : am_S} (h : w_Z S) : am_k S 143 = 20 := h.2.2.2.2.2.1
theorem zk144 {S : am_S} (h : w_Z S) : am_k S 144 = 20 := h.2.2.2.2.2.2.1
theorem zk145 {S : am_S} (h : w_Z S) : am_k S 145 = 20 := h.2.2.2.2.2.2.2.1
theorem zk146 {S : am_S} (h : w_Z S) : am_k S 146 = 20 := h.2.2.2.2.2.2.2.2.1
theorem zk147 {S : am_S} (h : w_Z S) : am_k S 147 = 20 := h.2.2.2.2.2.2.2.2.2.1
theorem zk148 {S : am_S} (h : w_Z S) : am_k S 148 = 24 := h.2.2.2.2.2.2.2.2.2.2.1
theorem zk149 {S : am_S} (h : w_Z S) : am_k S 149 = 20 := h.2.2.2.2.2.2.2.2.2.2.2.1
theorem zk150 {S : am_S} (h : w_Z S) : am_k S 150 = 21 := h.2.2.2.2.2.2.2.2.2.2.2.2.1
theorem zk151 {S : am_S} (h : w_Z S) : am_k S 151 = 21 := h.2.2.2.2.2.2.2.2.2.2.2.2.2.1
theorem zl139 {S : am_S} (h : w_Z S) : am_l S 139 = 3934 := h.2.2.2.2.2.2.2.2.2.2.2.2.2.2.1
theorem zl140 {S : am_S} (h : w_Z S) : am_l S 140 = 3934 := h.2.2.2.2.2.2.2.2.2.2.2.2.2.2.2.1
theorem zl141 {S : am_S} (h : w_Z S) : am_l S 141 = 3934 := h.2.2.2.2.2.2.2.2.2.2.2.2.2.2.2.2.1
theorem zl142 {S : am_S} (h : w_Z S) : am_l S 142 = 3934 := h.2.2.2.2.2.2.2.2.2.2.2.2.2.2.2.2.2.1
theorem zl143 {S : am_S} (h : w_Z S) : am_l S 143 = 39340 := h.2.2.2.2.2.2.2.2.2.2.2.2.2.2.2.2.2.2.1
theorem zl144 {S : am_S} (h : w_Z S) : am_l S 144 = 144 := h.2.2.2.2.2.2.2.2.2.2.2.2.2.2.2.2.2.2.2.1
theorem zl145 {S : am_S} (h : w_Z S) : am_l S 145 = 144 := h.2.2.2.2.2.2.2.2.2.2.2.2.2.2.2.2.2.2.2.2.1
theorem zl146 {S : am_S} (h : w_Z S) : am_l S 146 = 12 := h.2.2.2.2.2.2.2.2.2.2.2.2.2.2.2.2.2.2.2.2.2.1
theorem zl147 {S : am_S} (h : w_Z S) : am_l S 147 = 600 := h.2.2.2.2.2.2.2.2.2.2.2.2.2.2.2.2.2.2.2.2.2.2.1
theorem zl148 {S : am_S} (h : w_Z S) : am_l S 148 = 9 := h.2.2.2.2.2.2.2.2.2.2.2.2.2.2.2.2.2.2.2.2.2.2.2.1
theorem zl149 {S : am_S} (h : w_Z S) : am_l S 149 = 200 := h.2.2.2.2.2.2.2.2.2.2.2.2.2.2.2.2.2.2.2.2.2.2.2.2.1
theorem zl150 {S : am_S} (h : w_Z S) : am_l S 150 = 200 := h.2.2.2.2.2.2.2.2.2.2.2.2.2.2.2.2.2.2.2.2.2.2.2.2.2.1
theorem zl151 {S : am_S} (h : w_Z S) : am_l S 151 = 1 := h.2.2.2.2.2.2.2.2.2.2.2.2.2.2.2.2.2.2.2.2.2.2.2.2.2.2.1
theorem zr138_0 {S : am_S} (h : w_Z S) : am_r S 138 0 = some 139 := h.2.2.2.2.2.2.2.2.2.2.2.2.2.2.2.2.2.2.2.2.2.2.2.2.2.2.2.1
theorem zr138_1 {S : am_S} (h : w_Z S) : am_r S 138 1 = some 140 := h.2.2.2.2.2.2.2.2.2.2.2.2.2.2.2.2.2.2.2.2.2.2.2.2.2.2.2.2.1
theorem zr138_2 {S : am_S} (h : w_Z S) : am_r S 138 2 = some 141 := h.2.2.2.2.2.2.2.2.2.2.2.2.2.2.2.2.2.2.2.2.2.2.2.2.2.2.2.2.2.1
theorem zr138_3 {S : am_S} (h : w_Z S) : am_r S 138 3 = some 142 := h.2.2.2.2.2.2.2.2.2.2.2.2.2.2.2.2.2.2.2.2.2.2.2.2.2.2.2.2.2.2.1
theorem zr138_4 {S : am_S} (h : w_Z S) : am_r S 138 4 = some 143 := h.2.2.2.2.2.2.2.2.2.2.2.2.2.2.2.2.2.2.2.2.2.2.2.2.2.2.2.2.2.2.2.1
theorem zr138_8 {S : am_S} (h : w_Z S) : am_r S 138 8 = some 144 := h.2.2.2.2.2.2.2.2.2.2.2.2.2.2.2.2.2.2.2.2.2.2.2.2.2.2.2.2.2.2.2.2.1
theorem zr138_9 {S : am_S} (h : w_Z S) : am_r S 138 9 = some 145 := h.2.2.2.2.2.2.2.2.2.2.2.2.2.2.2.2.2.2.2.2.2.2.2.2.2.2.2.2.2.2.2.2.2.1
theorem zr138_10 {S : am_S} (h : w_Z S) : am_r S 138 10 = some 146 := h.2.2.2.2.2.2.2.2.2.2.2.2.2.2.2.2.2.2.2.2.2.2.2.2.2.2.2.2.2.2.2.2.2.2.1
theorem zr138_12 {S : am_S} (h : w_Z S) : am_r S 138 12 = some 147 := h.2.2.2.2.2.2.2.2.2.2.2.2.2.2.2.2.2.2.2.2.2.2.2.2.2.2.2.2.2.2.2.2.2.2.2.1
theorem zr138_24 {S : am_S} (h : w_Z S) : am_r S 138 24 = some 148 := h.2.2.2.2.2.2.2.2.2.2.2.2.2.2.2.2.2.2.2.2.2.2.2.2.2.2.2.2.2.2.2.2.2.2.2.2.1
theorem zr138_25 {S : am_S} (h : w_Z S) : am_r S 138 25 = some 149 := h.2.2.2.2.2.2.2.2.2.2.2.2.2.2.2.2.2.2.2.2.2.2.2.2.2.2.2.2.2.2.2.2.2.2.2.2.2.1
theorem zr138_26 {S : am_S} (h : w_Z S) : am_r S 138 26 = some 150 := h.2.2.2.2.2.2.2.2.2.2.2.2.2.2.2.2.2.2.2.2.2.2.2.2.2.2.2.2.2.2.2.2.2.2.2.2.2.2.1
theorem zr148_0 {S : am_S} (h : w_Z S) : am_r S 148 0 = some 23 := h.2.2.2.2.2.2.2.2.2.2.2.2.2.2.2.2.2.2.2.2.2.2.2.2.2.2.2.2.2.2.2.2.2.2.2.2.2.2.2.1
theorem zr148_1 {S : am_S} (h : w_Z S) : am_r S 148 1 = some 5 := h.2.2.2.2.2.2.2.2.2.2.2.2.2.2.2.2.2.2.2.2.2.2.2.2.2.2.2.2.2.2.2.2.2.2.2.2.2.2.2.2.1
theorem zr148_2 {S : am_S} (h : w_Z S) : am_r S 148 2 = some 24 := h.2.2.2.2.2.2.2.2.2.2.2.2.2.2.2.2.2.2.2.2.2.2.2.2.2.2.2.2.2.2.2.2.2.2.2.2.2.2.2.2.2.1
theorem zr148_3 {S : am_S} (h : w_Z S) : am_r S 148 3 = some 25 := h.2.2.2.2.2.2.2.2.2.2.2.2.2.2.2.2.2.2.2.2.2.2.2.2.2.2.2.2.2.2.2.2.2.2.2.2.2.2.2.2.2.2.1
theorem zr148_4 {S : am_S} (h : w_Z S) : am_r S 148 4 = some 26 := h.2.2.2.2.2.2.2.2.2.2.2.2.2.2.2.2.2.2.2.2.2.2.2.2.2.2.2.2.2.2.2.2.2.2.2.2.2.2.2.2.2.2.2.1
theorem zr148_5 {S : am_S} (h : w_Z S) : am_r S 148 5 = some 27 := h.2.2.2.2.2.2.2.2.2.2.2.2.2.2.2.2.2.2.2.2.2.2.2.2.2.2.2.2.2.2.2.2.2.2.2.2.2.2.2.2.2.2.2.2.1
theorem zr148_6 {S : am_S} (h : w_Z S) : am_r S 148 6 = some 28 := h.2.2.2.2.2.2.2.2.2.2.2.2.2.2.2.2.2.2.2.2.2.2.2.2.2.2.2.2.2.2.2.2.2.2.2.2.2.2.2.2.2.2.2.2.2.1
theorem zr148_7 {S : am_S} (h : w_Z S) : am_r S 148 7 = some 29 := h.2.2.2.2.2.2.2.2.2.2.2.2.2.2.2.2.2.2.2.2.2.2.2.2.2.2.2.2.2.2.2.2.2.2.2.2.2.2.2.2.2.2.2.2.2.2.1
theorem zr148_8 {S : am_S} (h : w_Z S) : am_r S 148 8 = some 30 := h.2.2.2.2.2.2.2.2.2.2.2.2.2.2.2.2.2.2.2.2.2.2.2.2.2.2.2.2.2.2.2.2.2.2.2.2.2.2.2.2.2.2.2.2.2.2.2
def w_C (S : am_S) : Prop := am_k S 100 = 10 ∧ am_k S 125 = 9 ∧ am_k S 126 = 20 ∧ am_k S 127 = 3 ∧ am_k S 128 = 22 ∧ am_k S 129 = 4 ∧ am_k S 130 = 23 ∧ am_k S 131 = 20 ∧ am_k S 132 = 1 ∧ am_k S 133 = 20 ∧ am_k S 134 = 8 ∧ am_k S 135 = 0 ∧ am_k S 136 = 5 ∧ am_k S 137 = 20 ∧ am_l S 126 = 3000 ∧ am_l S 128 = 10 ∧ am_l S 130 = 144 ∧ am_l S 131 = 144 ∧ am_l S 133 = 600 ∧ am_l S 137 = 12 ∧ am_r S 100 0 = some 101 ∧ am_r S 100 1 = some 113 ∧ am_r S 100 2 = some 125 ∧ am_r S 100 3 = some 127 ∧ am_r S 100 4 = some 129 ∧ am_r S 100 5 = some 132 ∧ am_r S 100 6 = some 133 ∧ am_r S 100 7 = some 134 ∧ am_r S 100 8 = some 135 ∧ am_r S 100 9 = some 136 ∧ am_r S 100 10 = some 137 ∧ am_r S 125 0 = some 126 ∧ am_r S 127 0 = some 128 ∧ am_r S 129 0 = some 101 ∧ am_r S 129 1 = some 130 ∧ am_r S 129 2 = some 131 ∧ am_r S 132 0 = some 129 ∧ am_r S 134 0 = some 133 ∧ am_r S 135 0 = some 134 ∧ am_r S 135 1 = some 113 ∧ am_r S 136 0 = some 134 ∧ am_r S 136 1 = some 101
theorem yk100 {S : am_S} (h : w_C S) : am_k S 100 = 10 := h.1
theorem yk125 {S : am_S} (h : w_C S) : am_k S 125 = 9 := h.2.1
theorem yk126 {S : am_S} (h : w_C S) : am_k S 126 = 20 := h.2.2.1
theorem yk127 {S : am_S} (h : w_C S) : am_k S 127 = 3 := h.2.2.2.1
theorem yk128 {S : am_S} (h : w_C S) : am_k S 128 = 22 := h.2.2.2.2.1
theorem yk129 {S : am_S} (h : w_C S) : am_k S 129 = 4 := h.2.2.2.2.2.1
theorem yk130 {S : am_S} (h : w_C S) : am_k S 130 = 23 := h.2.2.2.2.2.2.1
theorem yk131 {S : am_S} (h : w_C S) : am_k S 131 = 20 := h.2.2.2.2.2.2.2.1
theorem yk132 {S : am_S} (h : w_C S) : am_k S 132 = 1 := h.2.2.2.2.2.2.2.2.1
theorem yk133 {S : am_S} (h : w_C S) : am_k S 133 = 20 := h.2.2.2.2.2.2.2.2.2.1
theorem yk134 {S : am_S} (h : w_C S) : am_k S 134 = 8 := h.2.2.2.2.2.2.2.2.2.2.1
theorem yk135 {S : am_S} (h : w_C S) : am_k S 135 = 0 := h.2.2.2.2.2.2.2.2.2.2.2.1
theorem yk136 {S : am_S} (h : w_C S) : am_k S 136 = 5 := h.2.2.2.2.2.2.2.2.2.2.2.2.1
theorem yk137 {S : am_S} (h : w_C S) : am_k S 137 = 20 := h.2.2.2.2.2.2.2.2.2.2.2.2.2.1
theorem yl126 {S : am_S} (h : w_C S) : am_l S 126 = 3000 := h.2.2.2.2.2.2.2.2.2.2.2.2.2.2.1
theorem yl128 {S : am_S} (h : w_C S) : am_l S 128 = 10 := h.2.2.2.2.2.2.2.2.2.2.2.2.2.2.2.1
theorem yl130 {S : am_S} (h : w_C S) : am_l S 130 = 144 := h.2.2.2.2.2.2.2.2.2.2.2.2.2.2.2.2.1
theorem yl131 {S : am_S} (h : w_C S) : am_l S 131 = 144 := h.2.2.2.2.2.2.2.2.2.2.2.2.2.2.2.2.2.1
theorem yl133 {S : am_S} (h : w_C S) : am_l S 133 = 600 := h.2.2.2.2.2.2.2.2.2.2.2.2.2.2.2.2.2.2.1
theorem yl137 {S : am_S} (h : w_C S) : am_l S 137 = 12 := h.2.2.2.2.2.2.2.2.2.2.2.2.2.2.2.2.2.2.2.1
theorem yr100_0 {S : am_S} (h : w_C S) : am_r S 100 0 = some 101 := h.2.2.2.2.2.2.2.2.2.2.2.2.2.2.2.2.2.2.2.2.1
theorem yr100_1 {S : am_S} (h : w_C S) : am_r S 100 1 = some 113 := h.2.2.2.2.2.2.2.2.2.2.2.2.2.2.2.2.2.2.2.2.2.1
theorem yr100_2 {S : am_S} (h : w_C S) : am_r S 100 2 = some 125 := h.2.2.2.2.2.2.2.2.2.2.2.2.2.2.2.2.2.2.2.2.2.2.1
theorem yr100_3 {S : am_S} (h : w_C S) : am_r S 100 3 = some 127 := h.2.2.2.2.2.2.2.2.2.2.2.2.2.2.2.2.2.2.2.2.2.2.2.1
theorem yr100_4 {S : am_S} (h : w_C S) : am_r S 100 4 = some 129 := h.2.2.2.2.2.2.2.2.2.2.2.2.2.2.2.2.2.2.2.2.2.2.2.2.1
theorem yr100_5 {S : am_S} (h : w_C S) : am_r S 100 5 = some 132 := h.2.2.2.2.2.2.2.2.2.2.2.2.2.2.2.2.2.2.2.2.2.2.2.2.2.1
theorem yr100_6 {S : am_S} (h : w_C S) : am_r S 100 6 = some 133 := h.2.2.2.2.2.2.2.2.2.2.2.2.2.2.2.2.2.2.2.2.2.2.2.2.2.2.1
theorem yr100_7 {S : am_S} (h : w_C S) : am_r S 100 7 = some 134 := h.2.2.2.2.2.2.2.2.2.2.2.2.2.2.2.2.2.2.2.2.2.2.2.2.2.2.2.1
theorem yr100_8 {S : am_S} (h : w_C S) : am_r S 100 8 = some 135 := h.2.2.2.2.2.2.2.2.2.2.2.2.2.2.2.2.2.2.2.2.2.2.2.2.2.2.2.2.1
theorem yr100_9 {S : am_S} (h : w_C S) : am_r S 100 9 = some 136 := h.2.2.2.2.2.2.2.2.2.2.2.2.2.2.2.2.2.2.2.2.2.2.2.2.2.2.2.2.2.1
theorem yr100_10 {S : am_S} (h : w_C S) : am_r S 100 10 = some 137 := h.2.2.2.2.2.2.2.2.2.2.2.2.2.2.2.2.2.2.2.2.2.2.2.2.2.2.2.2.2.2.1
theorem yr125_0 {S : am_S} (h : w_C S) : am_r S 125 0 = some 126 := h.2.2.2.2.2.2.2.2.2.2.2.2.2.2.2.2.2.2.2.2.2.2.2.2.2.2.2.2.2.2.2.1
theorem yr127_0 {S : am_S} (h : w_C S) : am_r S 127 0 = some 128 := h.2.2.2.2.2.2.2.2.2.2.2.2.2.2.2.2.2.2.2.2.2.2.2.2.2.2.2.2.2.2.2.2.1
theorem yr129_0 {S : am_S} (h : w_C S) : am_r S 129 0 = some 101 := h.2.2.2.2.2.2.2.2.2.2.2.2.2.2.2.2.2.2.2.2.2.2.2.2.2.2.2.2.2.2.2.2.2.1
theorem yr129_1 {S : am_S} (h : w_C S) : am_r S 129 1 = some 130 := h.2.2.2.2.2.2.2.2.2.2.2.2.2.2.2.2.2.2.2.2.2.2.2.2.2.2.2.2.2.2.2.2.2.2.1
theorem yr129_2 {S : am_S} (h : w_C S) : am_r S 129 2 = some 131 := h.2.2.2.2.2.2.2.2.2.2.2.2.2.2.2.2.2.2.2.2.2.2.2.2.2.2.2.2.2.2.2.2.2.2.2.1
theorem yr132_0 {S : am_S} (h : w_C S) : am_r S 132 0 = some 129 := h.2.2.2.2.2.2.2.2.2.2.2.2.2.2.2.2.2.2.2.2.2.2.2.2.2.2.2.2.2.2.2.2.2.2.2.2.1
theorem yr134_0 {S : am_S} (h : w_C S) : am_r S 134 0 = some 133 := h.2.2.2.2.2.2.2.2.2.2.2.2.2.2.2.2.2.2.2.2.2.2.2.2.2.2.2.2.2.2.2.2.2.2.2.2.2.1
theorem yr135_0 {S : am_S} (h : w_C S) : am_r S 135 0 = some 134 := h.2.2.2.2.2.2.2.2.2.2.2.2.2.2.2.2.2.2.2.2.2.2.2.2.2.2.2.2.2.2.2.2.2.2.2.2.2.2.1
theorem yr135_1 {S : am_S} (h : w_C S) : am_r S 135 1 = some 113 := h.2.2.2.2.2.2.2.2.2.2.2.2.2.2.2.2.2.2.2.2.2.2.2.2.2.2.2.2.2.2.2.2.2.2.2.2.2.2.2.1
theorem yr136_0 {S : am_S} (h : w_C S) : am_r S 136 0 = some 134 := h.2.2.2.2.2.2.2.2.2.2.2.2.2.2.2.2.2.2.2.2.2.2.2.2.2.2.2.2.2.2.2.2.2.2.2.2.2.2.2.2.1
theorem yr136_1 {S : am_S} (h : w_C S) : am_r S 136 1 = some 101 := h.2.2.2.2.2.2.2.2.2.2.2.2.2.2.2.2.2.2.2.2.2.2.2.2.2.2.2.2.2.2.2.2.2.2.2.2.2.2.2.2.2
def w_A (S : am_S) (a : Nat) : Prop := am_k S a = 6 ∧ am_k S (a + 1) = 20 ∧ am_l S (a + 1) = 144 ∧ am_k S (a + 2) = 7 ∧ am_k S (a + 3) = 20 ∧ am_l S (a + 3) = 24 ∧ am_r S (a + 2) 2 = some (a + 3) ∧ am_i S (a + 2) 0 = nI 6 ∧ am_i S (a + 2) 1 = nI 4 ∧ am_k S (a + 4) = 7 ∧ am_k S (a + 5) = 20 ∧ am_l S (a + 5) = 32 ∧ am_r S (a + 4) 2 = some (a + 5) ∧ am_i S (a + 4) 0 = nI 4 ∧ am_i S (a + 4) 1 = nI 8 ∧ am_k S (a + 6) = 7 ∧ am_k S (a + 7) = 20 ∧ am_l S (a + 7) = 80 ∧ am_r S (a + 6) 2 = some (a + 7) ∧ am_i S (a + 6) 0 = nI 20 ∧ am_i S (a + 6) 1 = nI 4 ∧ am_k S (a + 8) = 7 ∧ am_k S (a + 9) = 20 ∧ am_l S (a + 9) = 400 ∧ am_r S (a + 8) 2 = some (a + 9) ∧ am_i S (a + 8) 0 = nI 40 ∧ am_i S (a + 8) 1 = nI 10 ∧ am_k S (a + 10) = 7 ∧ am_k S (a + 11) = 20 ∧ am_l S (a + 11) = 240 ∧ am_r S (a + 10) 2 = some (a + 11) ∧ am_i S (a + 10) 0 = nI 80 ∧ am_i S (a + 10) 1 = nI 3 ∧ am_r S a 7 = some (a + 1) ∧ am_r S a 8 = some (a + 2) ∧ am_r S a 9 = some (a + 4) ∧ am_r S a 10 = some (a + 6) ∧ am_r S a 11 = some (a + 8) ∧ am_r S a 12 = some (a + 10)
theorem xk0 {S : am_S} {a : Nat} (h : w_A S a) : am_k S a = 6 := h.1
theorem xk1 {S : am_S} {a : Nat} (h : w_A S a) : am_k S (a + 1) = 20 := h.2.1
theorem xl1 {S : am_S} {a : Nat} (h : w_A S a) : am_l S (a + 1) = 144 := h.2.2.1
theorem xk2 {S : am_S} {a : Nat} (h : w_A S a) : am_k S (a + 2) = 7 := h.2.2.2.1
theorem xk3 {S : am_S} {a : Nat} (h : w_A S a) : am_k S (a + 3) = 20 := h.2.2.2.2.1
theorem xl3 {S : am_S} {a : Nat} (h : w_A S a) : am_l S (a + 3) = 24 := h.2.2.2.2.2.1
theorem xr2_2 {S : am_S} {a : Nat} (h : w_A S a) : am_r S (a + 2) 2 = some (a + 3) := h.2.2.2.2.2.2.1
theorem xi2_0 {S : am_S} {a : Nat} (h : w_A S a) : am_i S (a + 2) 0 = nI 6 := h.2.2.2.2.2.2.2.1
theorem xi2_1 {S : am_S} {a : Nat} (h : w_A S a) : am_i S (a + 2) 1 = nI 4 := h.2.2.2.2.2.2.2.2.1
theorem xk4 {S : am_S} {a : Nat} (h : w_A S a) : am_k S (a + 4) = 7 := h.2.2.2.2.2.2.2.2.2.1
theorem xk5 {S : am_S} {a : Nat} (h : w_A S a) : am_k S (a + 5) = 20 := h.2.2.2.2.2.2.2.2.2.2.1
theorem xl5 {S : am_S} {a : Nat} (h : w_A S a) : am_l S (a + 5) = 32 := h.2.2.2.2.2.2.2.2.2.2.2.1
theorem xr4_2 {S : am_S} {a : Nat} (h : w_A S a) : am_r S (a + 4) 2 = some (a + 5) := h.2.2.2.2.2.2.2.2.2.2.2.2.1
theorem xi4_0 {S : am_S} {a : Nat} (h : w_A S a) : am_i S (a + 4) 0 = nI 4 := h.2.2.2.2.2.2.2.2.2.2.2.2.2.1
theorem xi4_1 {S : am_S} {a : Nat} (h : w_A S a) : am_i S (a + 4) 1 = nI 8 := h.2.2.2.2.2.2.2.2.2.2.2.2.2.2.1
theorem xk6 {S : am_S} {a : Nat} (h : w_A S a) : am_k S (a + 6) = 7 := h.2.2.2.2.2.2.2.2.2.2.2.2.2.2.2.1
theorem xk7 {S : am_S} {a : Nat} (h : w_A S a) : am_k S (a + 7) = 20 := h.2.2.2.2.2.2.2.2.2.2.2.2.2.2.2.2.1
theorem xl7 {S : am_S} {a : Nat} (h : w_A S a) : am_l S (a + 7) = 80 := h.2.2.2.2.2.2.2.2.2.2.2.2.2.2.2.2.2.1
theorem xr6_2 {S : am_S} {a : Nat} (h : w_A S a) : am_r S (a + 6) 2 = some (a + 7) := h.2.2.2.2.2.2.2.2.2.2.2.2.2.2.2.2.2.2.1
theorem xi6_0 {S : am_S} {a : Nat} (h : w_A S a) : am_i S (a + 6) 0 = nI 20 := h.2.2.2.2.2.2.2.2.2.2.2.2.2.2.2.2.2.2.2.1
theorem xi6_1 {S : am_S} {a : Nat} (h : w_A S a) : am_i S (a + 6) 1 = nI 4 := h.2.2.2.2.2.2.2.2.2.2.2.2.2.2.2.2.2.2.2.2.1
theorem xk8 {S : am_S} {a : Nat} (h : w_A S a) : am_k S (a + 8) = 7 := h.2.2.2.2.2.2.2.2.2.2.2.2.2.2.2.2.2.2.2.2.2.1
theorem xk9 {S : am_S} {a : Nat} (h : w_A S a) : am_k S (a + 9) = 20 := h.2.2.2.2.2.2.2.2.2.2.2.2.2.2.2.2.2.2.2.2.2.2.1
theorem xl9 {S : am_S} {a : Nat} (h : w_A S a) : am_l S (a + 9) = 400 := h.2.2.2.2.2.2.2.2.2.2.2.2.2.2.2.2.2.2.2.2.2.2.2.1
theorem xr8_2 {S : am_S} {a : Nat} (h : w_A S a) : am_r S (a + 8) 2 = some (a + 9) := h.2.2.2.2.2.2.2.2.2.2.2.2.2.2.2.2.2.2.2.2.2.2.2.2.1
theorem xi8_0 {S : am_S} {a : Nat} (h : w_A S a) : am_i S (a + 8) 0 = nI 40 := h.2.2.2.2.2.2.2.2.2.2.2.2.2.2.2.2.2.2.2.2.2.2.2.2.2.1
theorem xi8_1 {S : am_S} {a : Nat} (h : w_A S a) : am_i S (a + 8) 1 = nI 10 := h.2.2.2.2.2.2.2.2.2.2.2.2.2.2.2.2.2.2.2.2.2.2.2.2.2.2.1
theorem xk10 {S : am_S} {a : Nat} (h : w_A S a) : am_k S (a + 10) = 7 := h.2.2.2.2.2.2.2.2.2.2.2.2.2.2.2.2.2.2.2.2.2.2.2.2.2.2.2.1
theorem xk11 {S : am_S} {a : Nat} (h : w_A S a) : am_k S (a + 11) = 20 := h.2.2.2.2.2.2.2.2.2.2.2.2.2.2.2.2.2.2.2.2.2.2.2.2.2.2.2.2.1
theorem xl11 {S : am_S} {a : Nat} (h : w_A S a) : am_l S (a + 11) = 240 := h.2.2.2.2.2.2.2.2.2.2.2.2.2.2.2.2.2.2.2.2.2.2.2.2.2.2.2.2.2.1
theorem xr10_2 {S : am_S} {a : Nat} (h : w_A S a) : am_r S (a + 10) 2 = some (a + 11) := h.2.2.2.2.2.2.2.2.2.2.2.2.2.2.2.2.2.2.2.2.2.2.2.2.2.2.2.2.2.2.1
theorem xi10_0 {S : am_S} {a : Nat} (h : w_A S a) : am_i S (a + 10) 0 = nI 80 := h.2.2.2.2.2.2.2.2.2.2.2.2.2.2.2.2.2.2.2.2.2.2.2.2.2.2.2.2.2.2.2.1
theorem xi10_1 {S : am_S} {a : Nat} (h : w_A S a) : am_i S (a + 10) 1 = nI 3 := h.2.2.2.2.2.2.2.2.2.2.2.2.2.2.2.2.2.2.2.2.2.2.2.2.2.2.2.2.2.2.2.2.1
theorem xr0_7 {S : am_S} {a : Nat} (h : w_A S a) : am_r S a 7 = some (a + 1) := h.2.2.2.2.2.2.2.2.2.2.2.2.2.2.2.2.2.2.2.2.2.2.2.2.2.2.2.2.2.2.2.2.2.1
theorem xr0_8 {S : am_S} {a : Nat} (h : w_A S a) : am_r S a 8 = some (a + 2) := h.2.2.2.2.2.2.2.2.2.2.2.2.2.2.2.2.2.2.2.2.2.2.2.2.2.2.2.2.2.2.2.2.2.2.1
theorem xr0_9 {S : am_S} {a : Nat} (h : w_A S a) : am_r S a 9 = some (a + 4) := h.2.2.2.2.2.2.2.2.2.2.2.2.2.2.2.2.2.2.2.2.2.2.2.2.2.2.2.2.2.2.2.2.2.2.2.1
theorem xr0_10 {S : am_S} {a : Nat} (h : w_A S a) : am_r S a 10 = some (a + 6) := h.2.2.2.2.2.2.2.2.2.2.2.2.2.2.2.2.2.2.2.2.2.2.2.2.2.2.2.2.2.2.2.2.2.2.2.2.1
theorem xr0_11 {S : am_S} {a : Nat} (h : w_A S a) : am_r S a 11 = some (a + 8) := h.2.2.2.2.2.2.2.2.2.2.2.2.2.2.2.2.2.2.2.2.2.2.2.2.2.2.2.2.2.2.2.2.2.2.2.2.2.1
theorem xr0_12 {S : am_S} {a : Nat} (h : w_A S a) : am_r S a 12 = some (a + 10) := h.2.2.2.2.2.2.2.2.2.2.2.2.2.2.2.2.2.2.2.2.2.2.2.2.2.2.2.2.2.2.2.2.2.2.2.2.2.2
