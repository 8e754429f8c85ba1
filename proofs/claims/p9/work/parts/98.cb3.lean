set_option maxRecDepth 100000 in
theorem gw1800 : Cond.fieldLink RX0 9 "TongueHouse$Chart" "firstNode" "[I" ∈ lw_tbl := pk_t2 _ (List.mem_of_getElem? (i := 66) rfl)
set_option maxRecDepth 100000 in
theorem gw1801 : Cond.fieldLink RX0 15 "TongueHouse$Chart" "nodeCount" "[I" ∈ lw_tbl := pk_t2 _ (List.mem_of_getElem? (i := 68) rfl)
set_option maxRecDepth 100000 in
theorem gw1802 : Cond.fieldLink RX0 18 "TongueHouse$Chart" "nodeEnd" "[I" ∈ lw_tbl := pk_t2 _ (List.mem_of_getElem? (i := 73) rfl)
set_option maxRecDepth 100000 in
theorem gw1803 : Cond.fieldLink RX0 21 "TongueHouse$Chart" "nodeValues" "[I" ∈ lw_tbl := pk_t2 _ (List.mem_of_getElem? (i := 75) rfl)
set_option maxRecDepth 100000 in
theorem gw1804 : Cond.fieldLink RX0 24 "TongueHouse$Chart" "wayNode" "[I" ∈ lw_tbl := pk_t2 _ (List.mem_of_getElem? (i := 80) rfl)
set_option maxRecDepth 100000 in
theorem gw1805 : Cond.fieldLink RX0 27 "TongueHouse$Chart" "wayRule" "[I" ∈ lw_tbl := pk_t2 _ (List.mem_of_getElem? (i := 82) rfl)
set_option maxRecDepth 100000 in
theorem gw1806 : Cond.fieldLink RX0 31 "TongueHouse$Chart" "wayArgs" "[I" ∈ lw_tbl := pk_t2 _ (List.mem_of_getElem? (i := 84) rfl)
set_option maxRecDepth 100000 in
theorem gw1807 : Cond.fieldLink RX0 34 "TongueHouse$Chart" "kindLins" "[I" ∈ lw_tbl := pk_t2 _ (List.mem_of_getElem? (i := 92) rfl)
set_option maxRecDepth 100000 in
theorem gw1808 : Cond.fieldLink RX0 37 "TongueHouse$Chart" "linOrder" "[I" ∈ lw_tbl := pk_t2 _ (List.mem_of_getElem? (i := 93) rfl)
set_option maxRecDepth 100000 in
theorem gw1809 : Cond.fieldLink RX0 40 "TongueHouse$Chart" "chosen" "[I" ∈ lw_tbl := pk_t2 _ (List.mem_of_getElem? (i := 96) rfl)
set_option maxRecDepth 100000 in
theorem gw1810 : Cond.fieldLink RX0 43 "TongueHouse$Chart" "chosenValues" "[I" ∈ lw_tbl := pk_t2 _ (List.mem_of_getElem? (i := 97) rfl)
set_option maxRecDepth 100000 in
theorem gw1811 : Cond.fieldLink RX0 46 "TongueHouse$Chart" "work" "[I" ∈ lw_tbl := pk_t2 _ (List.mem_of_getElem? (i := 98) rfl)
set_option maxRecDepth 100000 in
theorem gw1812 : Cond.fieldLink RX0 49 "TongueHouse$Chart" "store" "LTongueHouse$Store;" ∈ lw_tbl := pk_t2 _ (List.mem_of_getElem? (i := 65) rfl)
set_option maxRecDepth 100000 in
theorem gw1813 : Cond.fieldLink RX0 53 "TongueHouse$Chart" "nodes" "I" ∈ lw_tbl := pk_t2 _ (List.mem_of_getElem? (i := 70) rfl)
set_option maxRecDepth 100000 in
theorem gw1814 : Cond.fieldLink RX0 57 "TongueHouse$Chart" "ways" "I" ∈ lw_tbl := pk_t2 _ (List.mem_of_getElem? (i := 77) rfl)
set_option maxRecDepth 100000 in
theorem gw1815 : Cond.fieldLink RX0 60 "TongueHouse$Chart" "tries" "I" ∈ lw_tbl := pk_t2 _ (List.mem_of_getElem? (i := 88) rfl)
set_option maxRecDepth 100000 in
theorem gw1816 : Cond.fieldLink RX0 63 "TongueHouse$Chart" "tongue" "LTongueHouse$Tongue;" ∈ lw_tbl := pk_t2 _ (List.mem_of_getElem? (i := 90) rfl)
set_option maxRecDepth 100000 in
theorem gw1817 : Cond.fieldLink RX0 67 "TongueHouse$Chart" "text" "LTongueHouse$Text;" ∈ lw_tbl := pk_t2 _ (List.mem_of_getElem? (i := 91) rfl)
set_option maxRecDepth 100000 in
theorem gw1818 : Cond.fieldLink RX0 71 "TongueHouse$Chart" "over" "Z" ∈ lw_tbl := pk_t2 _ (List.mem_of_getElem? (i := 89) rfl)
set_option maxRecDepth 100000 in
theorem gw1819 : Cond.fieldLink RX0 81 "TongueHouse$Text" "words" "I" ∈ lw_tbl := pk_t1 _ (List.mem_of_getElem? (i := 194) rfl)
set_option maxRecDepth 100000 in
theorem gw1820 : Cond.fieldLink RX0 86 "TongueHouse$Tongue" "forms" "LTongueHouse$Forms;" ∈ lw_tbl := pk_t4 _ (List.mem_of_getElem? (i := 156) rfl)
set_option maxRecDepth 100000 in
theorem gw1821 : Cond.fieldLink RX0 92 "TongueHouse$Text" "bytes" "[B" ∈ lw_tbl := pk_t1 _ (List.mem_of_getElem? (i := 178) rfl)
set_option maxRecDepth 100000 in
theorem gw1822 : Cond.fieldLink RX0 96 "TongueHouse$Text" "start" "[I" ∈ lw_tbl := pk_t1 _ (List.mem_of_getElem? (i := 187) rfl)
set_option maxRecDepth 100000 in
theorem gw1823 : Cond.fieldLink RX0 99 "TongueHouse$Text" "len" "[I" ∈ lw_tbl := pk_t1 _ (List.mem_of_getElem? (i := 191) rfl)
set_option maxRecDepth 100000 in
theorem gw1824 : Cond.fieldLink RX0 108 "TongueHouse$Store" "kinds" "LTongueHouse$Names;" ∈ lw_tbl := pk_t1 _ (List.mem_of_getElem? (i := 68) rfl)
set_option maxRecDepth 100000 in
theorem gw1825 : Cond.fieldLink RX0 114 "TongueHouse$Names" "size" "I" ∈ lw_tbl := pk_t1 _ (List.mem_of_getElem? (i := 54) rfl)
set_option maxRecDepth 100000 in
theorem gw1826 : Cond.fieldLink RX0 127 "TongueHouse$Chart" "root" "I" ∈ lw_tbl := pk_t2 _ (List.mem_of_getElem? (i := 86) rfl)
set_option maxRecDepth 100000 in
theorem gw1827 : Cond.fieldLink RX0 130 "TongueHouse$Tongue" "linCount" "I" ∈ lw_tbl := pk_t4 _ (List.mem_of_getElem? (i := 146) rfl)
set_option maxRecDepth 100000 in
theorem gw1828 : Cond.fieldLink RX0 133 "TongueHouse$Store" "funKind" "[I" ∈ lw_tbl := pk_t1 _ (List.mem_of_getElem? (i := 87) rfl)
set_option maxRecDepth 100000 in
theorem gw1829 : Cond.fieldLink RX0 136 "TongueHouse$Tongue" "lins" "[LTongueHouse$Lin;" ∈ lw_tbl := pk_t4 _ (List.mem_of_getElem? (i := 151) rfl)
set_option maxRecDepth 100000 in
theorem gw1830 : Cond.fieldLink RX0 140 "TongueHouse$Lin" "fun" "I" ∈ lw_tbl := pk_t5 _ (List.mem_of_getElem? (i := 117) rfl)
set_option maxRecDepth 100000 in
theorem gw1831 : Cond.fieldLink RX0 145 "TongueHouse$Chart" "spanFirst" "I" ∈ lw_tbl := pk_t2 _ (List.mem_of_getElem? (i := 94) rfl)
set_option maxRecDepth 100000 in
theorem gw1832 : Cond.fieldLink RX0 148 "TongueHouse$Chart" "spanEnd" "I" ∈ lw_tbl := pk_t2 _ (List.mem_of_getElem? (i := 95) rfl)
set_option maxRecDepth 100000 in
theorem gw1833 : Cond.fieldLink RX0 155 "TongueHouse$Lin" "size" "I" ∈ lw_tbl := pk_t5 _ (List.mem_of_getElem? (i := 126) rfl)
set_option maxRecDepth 100000 in
theorem gw1834 : Cond.fieldLink RX0 160 "TongueHouse$Forms" "found" "[I" ∈ lw_tbl := pk_t4 _ (List.mem_of_getElem? (i := 80) rfl)
set_option maxRecDepth 100000 in
theorem gw1835 : Cond.fieldLink RX0 178 "TongueHouse$Lin" "number" "I" ∈ lw_tbl := pk_t5 _ (List.mem_of_getElem? (i := 113) rfl)
set_option maxRecDepth 100000 in
theorem gw1836 : Cond.fieldLink RX0 181 "TongueHouse$Lin" "arg" "[I" ∈ lw_tbl := pk_t5 _ (List.mem_of_getElem? (i := 130) rfl)
set_option maxRecDepth 100000 in
theorem gw1837 : Cond.fieldLink RX0 184 "TongueHouse$Lin" "from" "[I" ∈ lw_tbl := pk_t5 _ (List.mem_of_getElem? (i := 134) rfl)
set_option maxRecDepth 100000 in
theorem gw1838 : Cond.fieldLink RX0 187 "TongueHouse$Lin" "length" "[I" ∈ lw_tbl := pk_t5 _ (List.mem_of_getElem? (i := 138) rfl)
set_option maxRecDepth 100000 in
theorem gw1839 : Cond.fieldLink RX0 194 "TongueHouse$Store" "funArgs" "[I" ∈ lw_tbl := pk_t1 _ (List.mem_of_getElem? (i := 94) rfl)
set_option maxRecDepth 100000 in
theorem gw1840 : Cond.fieldLink RX0 198 "TongueHouse$Lin" "slotNeed" "[I" ∈ lw_tbl := pk_t5 _ (List.mem_of_getElem? (i := 149) rfl)
set_option maxRecDepth 100000 in
theorem gw1841 : Cond.fieldLink RX0 205 "TongueHouse$Store" "pool" "[B" ∈ lw_tbl := pk_t1 _ (List.mem_of_getElem? (i := 118) rfl)
set_option maxRecDepth 100000 in
theorem gw1842 : Cond.constant RX0 30 (Int32.ofInt 36000) ∈ lw_tbl := pk_t2 _ (List.mem_of_getElem? (i := 64) rfl)
set_option maxRecDepth 100000 in
theorem gw1843 : Cond.constant RX0 197 (Int32.ofInt 400000) ∈ lw_tbl := pk_t7 _ (List.mem_of_getElem? (i := 193) rfl)
set_option maxRecDepth 100000 in
theorem gw1844 : Cond.fieldLink RX1 9 "TongueHouse$Finder" "analysed" "[I" ∈ lw_tbl := pk_t3 _ (List.mem_of_getElem? (i := 96) rfl)
set_option maxRecDepth 100000 in
theorem gw1845 : Cond.fieldLink RX1 15 "TongueHouse$Finder" "guessPattern" "[I" ∈ lw_tbl := pk_t3 _ (List.mem_of_getElem? (i := 98) rfl)
set_option maxRecDepth 100000 in
theorem gw1846 : Cond.fieldLink RX1 18 "TongueHouse$Finder" "guessForms" "[I" ∈ lw_tbl := pk_t3 _ (List.mem_of_getElem? (i := 99) rfl)
set_option maxRecDepth 100000 in
theorem gw1847 : Cond.fieldLink RX1 23 "TongueHouse$Finder" "sentence" "[[B" ∈ lw_tbl := pk_t3 _ (List.mem_of_getElem? (i := 104) rfl)
set_option maxRecDepth 100000 in
theorem gw1848 : Cond.fieldLink RX1 27 "TongueHouse$Finder" "sentenceTongue" "[I" ∈ lw_tbl := pk_t3 _ (List.mem_of_getElem? (i := 105) rfl)
set_option maxRecDepth 100000 in
theorem gw1849 : Cond.fieldLink RX1 33 "TongueHouse$Finder" "words" "LTongueHouse$Text;" ∈ lw_tbl := pk_t3 _ (List.mem_of_getElem? (i := 106) rfl)
set_option maxRecDepth 100000 in
theorem gw1850 : Cond.fieldLink RX1 37 "TongueHouse$Finder" "wordKinds" "[I" ∈ lw_tbl := pk_t3 _ (List.mem_of_getElem? (i := 107) rfl)
set_option maxRecDepth 100000 in
theorem gw1851 : Cond.fieldLink RX1 40 "TongueHouse$Finder" "hitSentence" "[I" ∈ lw_tbl := pk_t3 _ (List.mem_of_getElem? (i := 109) rfl)
set_option maxRecDepth 100000 in
theorem gw1852 : Cond.fieldLink RX1 43 "TongueHouse$Finder" "hitWord" "[I" ∈ lw_tbl := pk_t3 _ (List.mem_of_getElem? (i := 110) rfl)
set_option maxRecDepth 100000 in
theorem gw1853 : Cond.fieldLink RX1 46 "TongueHouse$Finder" "question" "[I" ∈ lw_tbl := pk_t3 _ (List.mem_of_getElem? (i := 112) rfl)
set_option maxRecDepth 100000 in
theorem gw1854 : Cond.fieldLink RX1 49 "TongueHouse$Finder" "store" "LTongueHouse$Store;" ∈ lw_tbl := pk_t3 _ (List.mem_of_getElem? (i := 93) rfl)
set_option maxRecDepth 100000 in
theorem gw1855 : Cond.fieldLink RX1 53 "TongueHouse$Finder" "analyses" "I" ∈ lw_tbl := pk_t3 _ (List.mem_of_getElem? (i := 95) rfl)
set_option maxRecDepth 100000 in
theorem gw1856 : Cond.fieldLink RX1 61 "TongueHouse$Finder" "analysisTongue" "I" ∈ lw_tbl := pk_t3 _ (List.mem_of_getElem? (i := 94) rfl)
set_option maxRecDepth 100000 in
theorem gw1857 : Cond.fieldLink RX1 64 "TongueHouse$Tongue" "forms" "LTongueHouse$Forms;" ∈ lw_tbl := pk_t4 _ (List.mem_of_getElem? (i := 154) rfl)
set_option maxRecDepth 100000 in
theorem gw1858 : Cond.fieldLink RX1 70 "TongueHouse$Text" "bytes" "[B" ∈ lw_tbl := pk_t1 _ (List.mem_of_getElem? (i := 177) rfl)
set_option maxRecDepth 100000 in
theorem gw1859 : Cond.fieldLink RX1 73 "TongueHouse$Text" "size" "I" ∈ lw_tbl := pk_t1 _ (List.mem_of_getElem? (i := 184) rfl)
set_option maxRecDepth 100000 in
theorem gw1860 : Cond.fieldLink RX1 82 "TongueHouse$Forms" "found" "[I" ∈ lw_tbl := pk_t4 _ (List.mem_of_getElem? (i := 79) rfl)
set_option maxRecDepth 100000 in
theorem gw1861 : Cond.fieldLink RX1 91 "TongueHouse$Store" "tongues" "[LTongueHouse$Tongue;" ∈ lw_tbl := pk_t1 _ (List.mem_of_getElem? (i := 81) rfl)
set_option maxRecDepth 100000 in
theorem gw1862 : Cond.fieldLink RX1 104 "TongueHouse$Store" "funCost" "[I" ∈ lw_tbl := pk_t1 _ (List.mem_of_getElem? (i := 98) rfl)
set_option maxRecDepth 100000 in
theorem gw1863 : Cond.fieldLink RX1 113 "TongueHouse$Finder" "guesses" "I" ∈ lw_tbl := pk_t3 _ (List.mem_of_getElem? (i := 97) rfl)
set_option maxRecDepth 100000 in
theorem gw1864 : Cond.fieldLink RX1 116 "TongueHouse$Finder" "guessTotal" "I" ∈ lw_tbl := pk_t3 _ (List.mem_of_getElem? (i := 100) rfl)
set_option maxRecDepth 100000 in
theorem gw1865 : Cond.fieldLink RX1 125 "TongueHouse$Finder" "guessEnding" "I" ∈ lw_tbl := pk_t3 _ (List.mem_of_getElem? (i := 101) rfl)
set_option maxRecDepth 100000 in
theorem gw1866 : Cond.fieldLink RX1 132 "TongueHouse$Tongue" "patterns" "LTongueHouse$Names;" ∈ lw_tbl := pk_t4 _ (List.mem_of_getElem? (i := 128) rfl)
set_option maxRecDepth 100000 in
theorem gw1867 : Cond.fieldLink RX1 136 "TongueHouse$Names" "size" "I" ∈ lw_tbl := pk_t1 _ (List.mem_of_getElem? (i := 53) rfl)
set_option maxRecDepth 100000 in
theorem gw1868 : Cond.fieldLink RX1 145 "TongueHouse$Tongue" "wordCount" "I" ∈ lw_tbl := pk_t4 _ (List.mem_of_getElem? (i := 138) rfl)
set_option maxRecDepth 100000 in
theorem gw1869 : Cond.fieldLink RX1 158 "TongueHouse$Finder" "collected" "I" ∈ lw_tbl := pk_t3 _ (List.mem_of_getElem? (i := 102) rfl)
set_option maxRecDepth 100000 in
theorem gw1870 : Cond.fieldLink RX1 165 "TongueHouse$Finder" "hits" "I" ∈ lw_tbl := pk_t3 _ (List.mem_of_getElem? (i := 108) rfl)
set_option maxRecDepth 100000 in
theorem gw1871 : Cond.fieldLink RX1 183 "TongueHouse$Finder" "asked" "I" ∈ lw_tbl := pk_t3 _ (List.mem_of_getElem? (i := 111) rfl)
set_option maxRecDepth 100000 in
theorem gw1872 : Cond.fieldLink RX1 189 "TongueHouse$Text" "type" "I" ∈ lw_tbl := pk_t1 _ (List.mem_of_getElem? (i := 204) rfl)
set_option maxRecDepth 100000 in
theorem gw1873 : Cond.fieldLink RX1 192 "TongueHouse$Store" "kinds" "LTongueHouse$Names;" ∈ lw_tbl := pk_t1 _ (List.mem_of_getElem? (i := 70) rfl)
set_option maxRecDepth 100000 in
theorem gw1874 : Cond.fieldLink RX1 195 "TongueHouse$Text" "name" "J" ∈ lw_tbl := pk_t1 _ (List.mem_of_getElem? (i := 209) rfl)
set_option maxRecDepth 100000 in
theorem gw1875 : Cond.fieldLink RX1 203 "TongueHouse$Text" "at" "I" ∈ lw_tbl := pk_t1 _ (List.mem_of_getElem? (i := 199) rfl)
set_option maxRecDepth 100000 in
theorem gw1876 : Cond.fieldLink RX1 213 "TongueHouse$Text" "words" "I" ∈ lw_tbl := pk_t1 _ (List.mem_of_getElem? (i := 196) rfl)
set_option maxRecDepth 100000 in
theorem gw1877 : Cond.fieldLink RX1 223 "TongueHouse$Text" "start" "[I" ∈ lw_tbl := pk_t1 _ (List.mem_of_getElem? (i := 188) rfl)
set_option maxRecDepth 100000 in
theorem gw1878 : Cond.fieldLink RX1 226 "TongueHouse$Text" "len" "[I" ∈ lw_tbl := pk_t1 _ (List.mem_of_getElem? (i := 192) rfl)
set_option maxRecDepth 100000 in
theorem gw1879 : Cond.fieldLink RX1 229 "TongueHouse$Store" "funKind" "[I" ∈ lw_tbl := pk_t1 _ (List.mem_of_getElem? (i := 88) rfl)
set_option maxRecDepth 100000 in
theorem gw1880 : Cond.fieldLink RX2 10 "TongueHouse$Forms" "text" "[B" ∈ lw_tbl := pk_t4 _ (List.mem_of_getElem? (i := 70) rfl)
set_option maxRecDepth 100000 in
theorem gw1881 : Cond.fieldLink RX2 16 "TongueHouse$Forms" "size" "[I" ∈ lw_tbl := pk_t4 _ (List.mem_of_getElem? (i := 73) rfl)
set_option maxRecDepth 100000 in
theorem gw1882 : Cond.fieldLink RX2 20 "TongueHouse$Forms" "chain" "[I" ∈ lw_tbl := pk_t4 _ (List.mem_of_getElem? (i := 76) rfl)
set_option maxRecDepth 100000 in
theorem gw1883 : Cond.fieldLink RX2 23 "TongueHouse$Forms" "head" "[I" ∈ lw_tbl := pk_t4 _ (List.mem_of_getElem? (i := 77) rfl)
set_option maxRecDepth 100000 in
theorem gw1884 : Cond.fieldLink RX2 26 "TongueHouse$Forms" "found" "[I" ∈ lw_tbl := pk_t4 _ (List.mem_of_getElem? (i := 78) rfl)
set_option maxRecDepth 100000 in
theorem gw1885 : Cond.fieldLink RX2 29 "TongueHouse$Forms" "from" "[B" ∈ lw_tbl := pk_t4 _ (List.mem_of_getElem? (i := 82) rfl)
set_option maxRecDepth 100000 in
theorem gw1886 : Cond.fieldLink RX2 32 "TongueHouse$Forms" "to" "[B" ∈ lw_tbl := pk_t4 _ (List.mem_of_getElem? (i := 84) rfl)
set_option maxRecDepth 100000 in
theorem gw1887 : Cond.fieldLink RX2 35 "TongueHouse$Forms" "pool" "[B" ∈ lw_tbl := pk_t4 _ (List.mem_of_getElem? (i := 69) rfl)
set_option maxRecDepth 100000 in
theorem gw1888 : Cond.fieldLink RX2 44 "TongueHouse$Forms" "builtWords" "I" ∈ lw_tbl := pk_t4 _ (List.mem_of_getElem? (i := 85) rfl)
set_option maxRecDepth 100000 in
theorem gw1889 : Cond.fieldLink RX2 48 "TongueHouse$Tongue" "wordCount" "I" ∈ lw_tbl := pk_t4 _ (List.mem_of_getElem? (i := 135) rfl)
set_option maxRecDepth 100000 in
theorem gw1890 : Cond.fieldLink RX2 53 "TongueHouse$Forms" "builtSounds" "I" ∈ lw_tbl := pk_t4 _ (List.mem_of_getElem? (i := 86) rfl)
set_option maxRecDepth 100000 in
theorem gw1891 : Cond.fieldLink RX2 56 "TongueHouse$Tongue" "soundCount" "I" ∈ lw_tbl := pk_t4 _ (List.mem_of_getElem? (i := 121) rfl)
set_option maxRecDepth 100000 in
theorem gw1892 : Cond.fieldLink RX2 88 "TongueHouse$Tongue" "cell" "[I" ∈ lw_tbl := pk_t4 _ (List.mem_of_getElem? (i := 133) rfl)
set_option maxRecDepth 100000 in
theorem gw1893 : Cond.fieldLink RX2 91 "TongueHouse$Tongue" "word" "[I" ∈ lw_tbl := pk_t4 _ (List.mem_of_getElem? (i := 142) rfl)
set_option maxRecDepth 100000 in
theorem gw1894 : Cond.fieldLink RX2 94 "TongueHouse$Text" "bytes" "[B" ∈ lw_tbl := pk_t1 _ (List.mem_of_getElem? (i := 180) rfl)
set_option maxRecDepth 100000 in
theorem gw1895 : Cond.fieldLink RX2 99 "TongueHouse$Text" "size" "I" ∈ lw_tbl := pk_t1 _ (List.mem_of_getElem? (i := 185) rfl)
set_option maxRecDepth 100000 in
theorem gw1896 : Cond.fieldLink RX2 104 "TongueHouse$Tongue" "sound" "[I" ∈ lw_tbl := pk_t4 _ (List.mem_of_getElem? (i := 125) rfl)
set_option maxRecDepth 100000 in
theorem gw1897 : Cond.fieldLink RX2 119 "TongueHouse$Tongue" "classMask" "[I" ∈ lw_tbl := pk_t4 _ (List.mem_of_getElem? (i := 119) rfl)
set_option maxRecDepth 100000 in
theorem gw1898 : Cond.constant RX2 9 (Int32.ofInt 36864) ∈ lw_tbl := pk_t4 _ (List.mem_of_getElem? (i := 65) rfl)
set_option maxRecDepth 100000 in
theorem gw1899 : Cond.fieldLink RX3 9 "TongueHouse$Lin" "arg" "[I" ∈ lw_tbl := pk_t5 _ (List.mem_of_getElem? (i := 128) rfl)
set_option maxRecDepth 100000 in
theorem gw1900 : Cond.fieldLink RX3 15 "TongueHouse$Lin" "from" "[I" ∈ lw_tbl := pk_t5 _ (List.mem_of_getElem? (i := 132) rfl)
set_option maxRecDepth 100000 in
theorem gw1901 : Cond.fieldLink RX3 18 "TongueHouse$Lin" "length" "[I" ∈ lw_tbl := pk_t5 _ (List.mem_of_getElem? (i := 136) rfl)
set_option maxRecDepth 100000 in
theorem gw1902 : Cond.fieldLink RX3 21 "TongueHouse$Lin" "slotArg" "[I" ∈ lw_tbl := pk_t5 _ (List.mem_of_getElem? (i := 144) rfl)
set_option maxRecDepth 100000 in
theorem gw1903 : Cond.fieldLink RX3 24 "TongueHouse$Lin" "slotNeed" "[I" ∈ lw_tbl := pk_t5 _ (List.mem_of_getElem? (i := 147) rfl)
set_option maxRecDepth 100000 in
theorem gw1904 : Cond.fieldLink RX3 27 "TongueHouse$Lin" "slotOf" "[I" ∈ lw_tbl := pk_t5 _ (List.mem_of_getElem? (i := 151) rfl)
set_option maxRecDepth 100000 in
theorem gw1905 : Cond.fieldLink RX3 30 "TongueHouse$Lin" "agree" "[I" ∈ lw_tbl := pk_t5 _ (List.mem_of_getElem? (i := 157) rfl)
set_option maxRecDepth 100000 in
theorem gw1906 : Cond.fieldLink RX3 33 "TongueHouse$Lin" "give" "[I" ∈ lw_tbl := pk_t5 _ (List.mem_of_getElem? (i := 161) rfl)
set_option maxRecDepth 100000 in
theorem gw1907 : Cond.fieldLink RX3 36 "TongueHouse$Lin" "agrees" "I" ∈ lw_tbl := pk_t5 _ (List.mem_of_getElem? (i := 155) rfl)
set_option maxRecDepth 100000 in
theorem gw1908 : Cond.fieldLink RX3 46 "TongueHouse$Lin" "slots" "I" ∈ lw_tbl := pk_t5 _ (List.mem_of_getElem? (i := 140) rfl)
set_option maxRecDepth 100000 in
theorem gw1909 : Cond.fieldLink RX3 49 "TongueHouse$Lin" "gives" "I" ∈ lw_tbl := pk_t5 _ (List.mem_of_getElem? (i := 159) rfl)
set_option maxRecDepth 100000 in
theorem gw1910 : Cond.fieldLink RX4 9 "TongueHouse$Names" "name" "[J" ∈ lw_tbl := pk_t1 _ (List.mem_of_getElem? (i := 48) rfl)
set_option maxRecDepth 100000 in
theorem gw1911 : Cond.fieldLink RX4 15 "TongueHouse$Names" "size" "I" ∈ lw_tbl := pk_t1 _ (List.mem_of_getElem? (i := 50) rfl)
set_option maxRecDepth 100000 in
theorem gw1912 : Cond.fieldLink RX5 9 "TongueHouse$Ranking" "barred" "[Z" ∈ lw_tbl := pk_t2 _ (List.mem_of_getElem? (i := 156) rfl)
set_option maxRecDepth 100000 in
theorem gw1913 : Cond.fieldLink RX5 17 "TongueHouse$Ranking" "treeCount" "[J" ∈ lw_tbl := pk_t2 _ (List.mem_of_getElem? (i := 157) rfl)
set_option maxRecDepth 100000 in
theorem gw1914 : Cond.fieldLink RX5 21 "TongueHouse$Ranking" "reached" "[Z" ∈ lw_tbl := pk_t2 _ (List.mem_of_getElem? (i := 158) rfl)
set_option maxRecDepth 100000 in
theorem gw1915 : Cond.fieldLink RX5 24 "TongueHouse$Ranking" "order" "[I" ∈ lw_tbl := pk_t2 _ (List.mem_of_getElem? (i := 160) rfl)
set_option maxRecDepth 100000 in
theorem gw1916 : Cond.fieldLink RX5 28 "TongueHouse$Ranking" "spare" "[I" ∈ lw_tbl := pk_t2 _ (List.mem_of_getElem? (i := 161) rfl)
set_option maxRecDepth 100000 in
theorem gw1917 : Cond.fieldLink RX5 31 "TongueHouse$Ranking" "listSize" "[I" ∈ lw_tbl := pk_t2 _ (List.mem_of_getElem? (i := 162) rfl)
set_option maxRecDepth 100000 in
theorem gw1918 : Cond.fieldLink RX5 35 "TongueHouse$Ranking" "listPrice" "[I" ∈ lw_tbl := pk_t2 _ (List.mem_of_getElem? (i := 163) rfl)
set_option maxRecDepth 100000 in
theorem gw1919 : Cond.fieldLink RX5 38 "TongueHouse$Ranking" "listWay" "[I" ∈ lw_tbl := pk_t2 _ (List.mem_of_getElem? (i := 164) rfl)
set_option maxRecDepth 100000 in
theorem gw1920 : Cond.fieldLink RX5 41 "TongueHouse$Ranking" "listRanks" "[I" ∈ lw_tbl := pk_t2 _ (List.mem_of_getElem? (i := 165) rfl)
set_option maxRecDepth 100000 in
theorem gw1921 : Cond.fieldLink RX5 44 "TongueHouse$Ranking" "topPrice" "[I" ∈ lw_tbl := pk_t2 _ (List.mem_of_getElem? (i := 167) rfl)
set_option maxRecDepth 100000 in
theorem gw1922 : Cond.fieldLink RX5 47 "TongueHouse$Ranking" "topEntry" "[I" ∈ lw_tbl := pk_t2 _ (List.mem_of_getElem? (i := 168) rfl)
set_option maxRecDepth 100000 in
theorem gw1923 : Cond.fieldLink RX5 50 "TongueHouse$Ranking" "stack" "[I" ∈ lw_tbl := pk_t2 _ (List.mem_of_getElem? (i := 169) rfl)
set_option maxRecDepth 100000 in
theorem gw1924 : Cond.fieldLink RX5 53 "TongueHouse$Ranking" "store" "LTongueHouse$Store;" ∈ lw_tbl := pk_t2 _ (List.mem_of_getElem? (i := 151) rfl)
set_option maxRecDepth 100000 in
theorem gw1925 : Cond.fieldLink RX5 57 "TongueHouse$Ranking" "chart" "LTongueHouse$Chart;" ∈ lw_tbl := pk_t2 _ (List.mem_of_getElem? (i := 152) rfl)
set_option maxRecDepth 100000 in
theorem gw1926 : Cond.fieldLink RX5 61 "TongueHouse$Ranking" "isOpen" "Z" ∈ lw_tbl := pk_t2 _ (List.mem_of_getElem? (i := 154) rfl)
set_option maxRecDepth 100000 in
theorem gw1927 : Cond.fieldLink RX5 65 "TongueHouse$Ranking" "ranked" "Z" ∈ lw_tbl := pk_t2 _ (List.mem_of_getElem? (i := 155) rfl)
set_option maxRecDepth 100000 in
theorem gw1928 : Cond.fieldLink RX5 68 "TongueHouse$Ranking" "topSize" "I" ∈ lw_tbl := pk_t2 _ (List.mem_of_getElem? (i := 166) rfl)
set_option maxRecDepth 100000 in
theorem gw1929 : Cond.fieldLink RX5 72 "TongueHouse$Ranking" "tongue" "LTongueHouse$Tongue;" ∈ lw_tbl := pk_t2 _ (List.mem_of_getElem? (i := 153) rfl)
set_option maxRecDepth 100000 in
theorem gw1930 : Cond.fieldLink RX5 76 "TongueHouse$Chart" "wayRule" "[I" ∈ lw_tbl := pk_t2 _ (List.mem_of_getElem? (i := 83) rfl)
set_option maxRecDepth 100000 in
theorem gw1931 : Cond.fieldLink RX5 85 "TongueHouse$Tongue" "lins" "[LTongueHouse$Lin;" ∈ lw_tbl := pk_t4 _ (List.mem_of_getElem? (i := 150) rfl)
set_option maxRecDepth 100000 in
theorem gw1932 : Cond.fieldLink RX5 89 "TongueHouse$Lin" "fun" "I" ∈ lw_tbl := pk_t5 _ (List.mem_of_getElem? (i := 116) rfl)
set_option maxRecDepth 100000 in
theorem gw1933 : Cond.fieldLink RX5 94 "TongueHouse$Lin" "slots" "I" ∈ lw_tbl := pk_t5 _ (List.mem_of_getElem? (i := 142) rfl)
set_option maxRecDepth 100000 in
theorem gw1934 : Cond.fieldLink RX5 100 "TongueHouse$Lin" "cost" "I" ∈ lw_tbl := pk_t5 _ (List.mem_of_getElem? (i := 123) rfl)
set_option maxRecDepth 100000 in
theorem gw1935 : Cond.fieldLink RX5 103 "TongueHouse$Store" "funCost" "[I" ∈ lw_tbl := pk_t1 _ (List.mem_of_getElem? (i := 99) rfl)
set_option maxRecDepth 100000 in
theorem gw1936 : Cond.fieldLink RX5 111 "TongueHouse$Chart" "nodes" "I" ∈ lw_tbl := pk_t2 _ (List.mem_of_getElem? (i := 71) rfl)
set_option maxRecDepth 100000 in
theorem gw1937 : Cond.fieldLink RX5 114 "TongueHouse$Chart" "ways" "I" ∈ lw_tbl := pk_t2 _ (List.mem_of_getElem? (i := 78) rfl)
set_option maxRecDepth 100000 in
theorem gw1938 : Cond.fieldLink RX5 120 "TongueHouse$Chart" "wayArgs" "[I" ∈ lw_tbl := pk_t2 _ (List.mem_of_getElem? (i := 85) rfl)
set_option maxRecDepth 100000 in
theorem gw1939 : Cond.fieldLink RX5 127 "TongueHouse$Chart" "wayNode" "[I" ∈ lw_tbl := pk_t2 _ (List.mem_of_getElem? (i := 81) rfl)
set_option maxRecDepth 100000 in
theorem gw1940 : Cond.fieldLink RX5 137 "TongueHouse$Chart" "firstNode" "[I" ∈ lw_tbl := pk_t2 _ (List.mem_of_getElem? (i := 67) rfl)
set_option maxRecDepth 100000 in
theorem gw1941 : Cond.fieldLink RX5 140 "TongueHouse$Chart" "root" "I" ∈ lw_tbl := pk_t2 _ (List.mem_of_getElem? (i := 87) rfl)
set_option maxRecDepth 100000 in
theorem gw1942 : Cond.fieldLink RX5 143 "TongueHouse$Chart" "nodeCount" "[I" ∈ lw_tbl := pk_t2 _ (List.mem_of_getElem? (i := 69) rfl)
set_option maxRecDepth 100000 in
theorem gw1943 : Cond.fieldLink RX5 149 "TongueHouse$Lin" "slotOf" "[I" ∈ lw_tbl := pk_t5 _ (List.mem_of_getElem? (i := 153) rfl)
set_option maxRecDepth 100000 in
theorem gw1944 : Cond.fieldLink RX5 158 "TongueHouse$Ranking" "orderSize" "I" ∈ lw_tbl := pk_t2 _ (List.mem_of_getElem? (i := 159) rfl)
set_option maxRecDepth 100000 in
theorem gw1945 : Cond.fieldLink RX5 182 "TongueHouse$Lin" "rank" "I" ∈ lw_tbl := pk_t5 _ (List.mem_of_getElem? (i := 120) rfl)
set_option maxRecDepth 100000 in
theorem gw1946 : Cond.fieldLink RX5 188 "TongueHouse$Chart" "nodeEnd" "[I" ∈ lw_tbl := pk_t2 _ (List.mem_of_getElem? (i := 74) rfl)
set_option maxRecDepth 100000 in
theorem gw1947 : Cond.fieldLink RX5 191 "TongueHouse$Chart" "nodeValues" "[I" ∈ lw_tbl := pk_t2 _ (List.mem_of_getElem? (i := 76) rfl)
set_option maxRecDepth 100000 in
theorem gw1948 : Cond.constant RX5 34 (Int32.ofInt 48000) ∈ lw_tbl := pk_t2 _ (List.mem_of_getElem? (i := 150) rfl)
set_option maxRecDepth 100000 in
theorem gw1949 : Cond.constantLong RX5 130 1000000000000000000 ∈ lw_tbl := pk_t6 _ (List.mem_of_getElem? (i := 25) rfl)
set_option maxRecDepth 100000 in
theorem gw1950 : Cond.fieldLink RX6 11 "TongueHouse$Reader" "cell" "[I" ∈ lw_tbl := pk_t2 _ (List.mem_of_getElem? (i := 9) rfl)
set_option maxRecDepth 100000 in
theorem gw1951 : Cond.fieldLink RX6 17 "TongueHouse$Reader" "row" "[I" ∈ lw_tbl := pk_t2 _ (List.mem_of_getElem? (i := 10) rfl)
set_option maxRecDepth 100000 in
theorem gw1952 : Cond.fieldLink RX6 20 "TongueHouse$Reader" "names" "[J" ∈ lw_tbl := pk_t2 _ (List.mem_of_getElem? (i := 11) rfl)
set_option maxRecDepth 100000 in
theorem gw1953 : Cond.fieldLink RX6 24 "TongueHouse$Reader" "termOp" "[I" ∈ lw_tbl := pk_t2 _ (List.mem_of_getElem? (i := 13) rfl)
set_option maxRecDepth 100000 in
theorem gw1954 : Cond.fieldLink RX6 27 "TongueHouse$Reader" "termName" "[J" ∈ lw_tbl := pk_t2 _ (List.mem_of_getElem? (i := 14) rfl)
set_option maxRecDepth 100000 in
theorem gw1955 : Cond.fieldLink RX6 30 "TongueHouse$Reader" "binder" "[J" ∈ lw_tbl := pk_t2 _ (List.mem_of_getElem? (i := 16) rfl)
set_option maxRecDepth 100000 in
theorem gw1956 : Cond.fieldLink RX6 33 "TongueHouse$Reader" "opened" "[I" ∈ lw_tbl := pk_t2 _ (List.mem_of_getElem? (i := 17) rfl)
set_option maxRecDepth 100000 in
theorem gw1957 : Cond.fieldLink RX6 36 "TongueHouse$Reader" "seen" "[I" ∈ lw_tbl := pk_t2 _ (List.mem_of_getElem? (i := 18) rfl)
set_option maxRecDepth 100000 in
theorem gw1958 : Cond.fieldLink RX6 39 "TongueHouse$Reader" "store" "LTongueHouse$Store;" ∈ lw_tbl := pk_t1 _ (List.mem_of_getElem? (i := 238) rfl)
set_option maxRecDepth 100000 in
theorem gw1959 : Cond.fieldLink RX6 43 "TongueHouse$Reader" "tape" "LTongueHouse$Text;" ∈ lw_tbl := pk_t1 _ (List.mem_of_getElem? (i := 239) rfl)
set_option maxRecDepth 100000 in
theorem gw1960 : Cond.fieldLink RX6 47 "TongueHouse$Reader" "rule" "I" ∈ lw_tbl := pk_t2 _ (List.mem_of_getElem? (i := 1) rfl)
set_option maxRecDepth 100000 in
theorem gw1961 : Cond.fieldLink RX6 61 "TongueHouse$Text" "at" "I" ∈ lw_tbl := pk_t1 _ (List.mem_of_getElem? (i := 198) rfl)
set_option maxRecDepth 100000 in
theorem gw1962 : Cond.fieldLink RX6 64 "TongueHouse$Reader" "first" "I" ∈ lw_tbl := pk_t2 _ (List.mem_of_getElem? (i := 5) rfl)
set_option maxRecDepth 100000 in
theorem gw1963 : Cond.fieldLink RX6 67 "TongueHouse$Text" "type" "I" ∈ lw_tbl := pk_t1 _ (List.mem_of_getElem? (i := 202) rfl)
set_option maxRecDepth 100000 in
theorem gw1964 : Cond.fieldLink RX6 74 "TongueHouse$Text" "name" "J" ∈ lw_tbl := pk_t1 _ (List.mem_of_getElem? (i := 208) rfl)
set_option maxRecDepth 100000 in
theorem gw1965 : Cond.fieldLink RX6 89 "TongueHouse$Store" "kinds" "LTongueHouse$Names;" ∈ lw_tbl := pk_t1 _ (List.mem_of_getElem? (i := 67) rfl)
set_option maxRecDepth 100000 in
theorem gw1966 : Cond.fieldLink RX6 109 "TongueHouse$Store" "things" "LTongueHouse$Names;" ∈ lw_tbl := pk_t1 _ (List.mem_of_getElem? (i := 75) rfl)
set_option maxRecDepth 100000 in
theorem gw1967 : Cond.fieldLink RX6 129 "TongueHouse$Store" "current" "I" ∈ lw_tbl := pk_t1 _ (List.mem_of_getElem? (i := 85) rfl)
set_option maxRecDepth 100000 in
theorem gw1968 : Cond.fieldLink RX6 132 "TongueHouse$Store" "tongues" "[LTongueHouse$Tongue;" ∈ lw_tbl := pk_t1 _ (List.mem_of_getElem? (i := 82) rfl)
set_option maxRecDepth 100000 in
theorem gw1969 : Cond.fieldLink RX6 136 "TongueHouse$Reader" "tongue" "LTongueHouse$Tongue;" ∈ lw_tbl := pk_t2 _ (List.mem_of_getElem? (i := 0) rfl)
set_option maxRecDepth 100000 in
theorem gw1970 : Cond.fieldLink RX6 158 "TongueHouse$Reader" "where" "I" ∈ lw_tbl := pk_t2 _ (List.mem_of_getElem? (i := 3) rfl)
set_option maxRecDepth 100000 in
theorem gw1971 : Cond.fieldLink RX6 174 "TongueHouse$Store" "isFull" "Z" ∈ lw_tbl := pk_t1 _ (List.mem_of_getElem? (i := 122) rfl)
set_option maxRecDepth 100000 in
theorem gw1972 : Cond.fieldLink RX6 178 "TongueHouse$Reader" "cost" "I" ∈ lw_tbl := pk_t2 _ (List.mem_of_getElem? (i := 7) rfl)
set_option maxRecDepth 100000 in
theorem gw1973 : Cond.fieldLink RX6 187 "TongueHouse$Text" "value" "I" ∈ lw_tbl := pk_t1 _ (List.mem_of_getElem? (i := 206) rfl)
set_option maxRecDepth 100000 in
theorem gw1974 : Cond.fieldLink RX6 190 "TongueHouse$Reader" "values" "I" ∈ lw_tbl := pk_t2 _ (List.mem_of_getElem? (i := 6) rfl)
set_option maxRecDepth 100000 in
theorem gw1975 : Cond.fieldLink RX6 193 "TongueHouse$Tongue" "values" "LTongueHouse$Names;" ∈ lw_tbl := pk_t4 _ (List.mem_of_getElem? (i := 111) rfl)
set_option maxRecDepth 100000 in
theorem gw1976 : Cond.fieldLink RX6 195 "TongueHouse$Tongue" "valueFeature" "[I" ∈ lw_tbl := pk_t4 _ (List.mem_of_getElem? (i := 113) rfl)
set_option maxRecDepth 100000 in
theorem gw1977 : Cond.fieldLink RX6 202 "TongueHouse$Tongue" "valueRank" "[I" ∈ lw_tbl := pk_t4 _ (List.mem_of_getElem? (i := 115) rfl)
set_option maxRecDepth 100000 in
theorem gw1978 : Cond.fieldLink RX6 205 "TongueHouse$Store" "poolSize" "I" ∈ lw_tbl := pk_t1 _ (List.mem_of_getElem? (i := 120) rfl)
set_option maxRecDepth 100000 in
theorem gw1979 : Cond.fieldLink RX6 212 "TongueHouse$Text" "bytes" "[B" ∈ lw_tbl := pk_t1 _ (List.mem_of_getElem? (i := 181) rfl)
set_option maxRecDepth 100000 in
theorem gw1980 : Cond.fieldLink RX6 220 "TongueHouse$Store" "tongueNames" "LTongueHouse$Names;" ∈ lw_tbl := pk_t1 _ (List.mem_of_getElem? (i := 79) rfl)
set_option maxRecDepth 100000 in
theorem gw1981 : Cond.fieldLink RX6 229 "TongueHouse$Names" "size" "I" ∈ lw_tbl := pk_t1 _ (List.mem_of_getElem? (i := 55) rfl)
set_option maxRecDepth 100000 in
theorem gw1982 : Cond.fieldLink RX6 242 "TongueHouse$Store" "funs" "LTongueHouse$Names;" ∈ lw_tbl := pk_t1 _ (List.mem_of_getElem? (i := 73) rfl)
set_option maxRecDepth 100000 in
theorem gw1983 : Cond.fieldLink RX6 251 "TongueHouse$Store" "funKind" "[I" ∈ lw_tbl := pk_t1 _ (List.mem_of_getElem? (i := 89) rfl)
set_option maxRecDepth 100000 in
theorem gw1984 : Cond.fieldLink RX6 254 "TongueHouse$Store" "funArity" "[I" ∈ lw_tbl := pk_t1 _ (List.mem_of_getElem? (i := 92) rfl)
set_option maxRecDepth 100000 in
theorem gw1985 : Cond.fieldLink RX6 257 "TongueHouse$Store" "funCost" "[I" ∈ lw_tbl := pk_t1 _ (List.mem_of_getElem? (i := 100) rfl)
set_option maxRecDepth 100000 in
theorem gw1986 : Cond.fieldLink RX6 260 "TongueHouse$Store" "funArgs" "[I" ∈ lw_tbl := pk_t1 _ (List.mem_of_getElem? (i := 95) rfl)
set_option maxRecDepth 100000 in
theorem gw1987 : Cond.fieldLink RX6 273 "TongueHouse$Store" "factCount" "I" ∈ lw_tbl := pk_t1 _ (List.mem_of_getElem? (i := 111) rfl)
set_option maxRecDepth 100000 in
theorem gw1988 : Cond.fieldLink RX6 276 "TongueHouse$Store" "factName" "[J" ∈ lw_tbl := pk_t1 _ (List.mem_of_getElem? (i := 113) rfl)
set_option maxRecDepth 100000 in
theorem gw1989 : Cond.fieldLink RX6 279 "TongueHouse$Store" "factThings" "[I" ∈ lw_tbl := pk_t1 _ (List.mem_of_getElem? (i := 115) rfl)
set_option maxRecDepth 100000 in
theorem gw1990 : Cond.fieldLink RX6 282 "TongueHouse$Tongue" "features" "LTongueHouse$Names;" ∈ lw_tbl := pk_t4 _ (List.mem_of_getElem? (i := 109) rfl)
set_option maxRecDepth 100000 in
theorem gw1991 : Cond.fieldLink RX6 285 "TongueHouse$Tongue" "classes" "LTongueHouse$Names;" ∈ lw_tbl := pk_t4 _ (List.mem_of_getElem? (i := 117) rfl)
set_option maxRecDepth 100000 in
theorem gw1992 : Cond.fieldLink RX6 288 "TongueHouse$Tongue" "classMask" "[I" ∈ lw_tbl := pk_t4 _ (List.mem_of_getElem? (i := 120) rfl)
set_option maxRecDepth 100000 in
theorem gw1993 : Cond.fieldLink RX6 306 "TongueHouse$Tongue" "soundCount" "I" ∈ lw_tbl := pk_t4 _ (List.mem_of_getElem? (i := 123) rfl)
set_option maxRecDepth 100000 in
theorem gw1994 : Cond.fieldLink RX6 309 "TongueHouse$Tongue" "sound" "[I" ∈ lw_tbl := pk_t4 _ (List.mem_of_getElem? (i := 126) rfl)
set_option maxRecDepth 100000 in
theorem gw1995 : Cond.fieldLink RX6 312 "TongueHouse$Tongue" "patterns" "LTongueHouse$Names;" ∈ lw_tbl := pk_t4 _ (List.mem_of_getElem? (i := 129) rfl)
set_option maxRecDepth 100000 in
theorem gw1996 : Cond.fieldLink RX6 315 "TongueHouse$Reader" "cells" "I" ∈ lw_tbl := pk_t2 _ (List.mem_of_getElem? (i := 8) rfl)
set_option maxRecDepth 100000 in
theorem gw1997 : Cond.fieldLink RX6 329 "TongueHouse$Tongue" "cellCount" "[I" ∈ lw_tbl := pk_t4 _ (List.mem_of_getElem? (i := 131) rfl)
set_option maxRecDepth 100000 in
theorem gw1998 : Cond.fieldLink RX6 332 "TongueHouse$Tongue" "cell" "[I" ∈ lw_tbl := pk_t4 _ (List.mem_of_getElem? (i := 134) rfl)
set_option maxRecDepth 100000 in
theorem gw1999 : Cond.fieldLink RX6 351 "TongueHouse$Tongue" "wordCount" "I" ∈ lw_tbl := pk_t4 _ (List.mem_of_getElem? (i := 140) rfl)
set_option maxRecDepth 100000 in
theorem gw2000 : Cond.fieldLink RX6 354 "TongueHouse$Tongue" "word" "[I" ∈ lw_tbl := pk_t4 _ (List.mem_of_getElem? (i := 143) rfl)
set_option maxRecDepth 100000 in
theorem gw2001 : Cond.fieldLink RX6 362 "TongueHouse$Lin" "fun" "I" ∈ lw_tbl := pk_t5 _ (List.mem_of_getElem? (i := 119) rfl)
set_option maxRecDepth 100000 in
theorem gw2002 : Cond.fieldLink RX6 365 "TongueHouse$Lin" "slotOf" "[I" ∈ lw_tbl := pk_t5 _ (List.mem_of_getElem? (i := 154) rfl)
set_option maxRecDepth 100000 in
theorem gw2003 : Cond.fieldLink RX6 375 "TongueHouse$Lin" "cost" "I" ∈ lw_tbl := pk_t5 _ (List.mem_of_getElem? (i := 124) rfl)
set_option maxRecDepth 100000 in
theorem gw2004 : Cond.fieldLink RX6 376 "TongueHouse$Lin" "size" "I" ∈ lw_tbl := pk_t5 _ (List.mem_of_getElem? (i := 127) rfl)
set_option maxRecDepth 100000 in
theorem gw2005 : Cond.fieldLink RX6 377 "TongueHouse$Lin" "slots" "I" ∈ lw_tbl := pk_t5 _ (List.mem_of_getElem? (i := 143) rfl)
set_option maxRecDepth 100000 in
theorem gw2006 : Cond.fieldLink RX6 380 "TongueHouse$Lin" "arg" "[I" ∈ lw_tbl := pk_t5 _ (List.mem_of_getElem? (i := 131) rfl)
set_option maxRecDepth 100000 in
theorem gw2007 : Cond.fieldLink RX6 386 "TongueHouse$Lin" "rank" "I" ∈ lw_tbl := pk_t5 _ (List.mem_of_getElem? (i := 121) rfl)
set_option maxRecDepth 100000 in
theorem gw2008 : Cond.fieldLink RX6 389 "TongueHouse$Tongue" "linCount" "I" ∈ lw_tbl := pk_t4 _ (List.mem_of_getElem? (i := 147) rfl)
set_option maxRecDepth 100000 in
theorem gw2009 : Cond.fieldLink RX6 392 "TongueHouse$Tongue" "lins" "[LTongueHouse$Lin;" ∈ lw_tbl := pk_t4 _ (List.mem_of_getElem? (i := 152) rfl)
set_option maxRecDepth 100000 in
theorem gw2010 : Cond.fieldLink RX6 396 "TongueHouse$Lin" "number" "I" ∈ lw_tbl := pk_t5 _ (List.mem_of_getElem? (i := 114) rfl)
set_option maxRecDepth 100000 in
theorem gw2011 : Cond.fieldLink RX6 402 "TongueHouse$Lin" "from" "[I" ∈ lw_tbl := pk_t5 _ (List.mem_of_getElem? (i := 135) rfl)
set_option maxRecDepth 100000 in
theorem gw2012 : Cond.fieldLink RX6 405 "TongueHouse$Lin" "length" "[I" ∈ lw_tbl := pk_t5 _ (List.mem_of_getElem? (i := 139) rfl)
set_option maxRecDepth 100000 in
theorem gw2013 : Cond.fieldLink RX6 408 "TongueHouse$Lin" "slotArg" "[I" ∈ lw_tbl := pk_t5 _ (List.mem_of_getElem? (i := 146) rfl)
set_option maxRecDepth 100000 in
theorem gw2014 : Cond.fieldLink RX6 411 "TongueHouse$Lin" "slotNeed" "[I" ∈ lw_tbl := pk_t5 _ (List.mem_of_getElem? (i := 150) rfl)
set_option maxRecDepth 100000 in
theorem gw2015 : Cond.fieldLink RX6 418 "TongueHouse$Lin" "agrees" "I" ∈ lw_tbl := pk_t5 _ (List.mem_of_getElem? (i := 156) rfl)
set_option maxRecDepth 100000 in
theorem gw2016 : Cond.fieldLink RX6 421 "TongueHouse$Lin" "gives" "I" ∈ lw_tbl := pk_t5 _ (List.mem_of_getElem? (i := 160) rfl)
set_option maxRecDepth 100000 in
theorem gw2017 : Cond.fieldLink RX6 433 "TongueHouse$Lin" "agree" "[I" ∈ lw_tbl := pk_t5 _ (List.mem_of_getElem? (i := 158) rfl)
set_option maxRecDepth 100000 in
theorem gw2018 : Cond.fieldLink RX6 436 "TongueHouse$Lin" "give" "[I" ∈ lw_tbl := pk_t5 _ (List.mem_of_getElem? (i := 162) rfl)
set_option maxRecDepth 100000 in
theorem gw2019 : Cond.fieldLink RX6 439 "TongueHouse$Store" "meanSize" "[I" ∈ lw_tbl := pk_t1 _ (List.mem_of_getElem? (i := 103) rfl)
set_option maxRecDepth 100000 in
theorem gw2020 : Cond.fieldLink RX6 442 "TongueHouse$Reader" "termSize" "I" ∈ lw_tbl := pk_t2 _ (List.mem_of_getElem? (i := 12) rfl)
set_option maxRecDepth 100000 in
theorem gw2021 : Cond.fieldLink RX6 445 "TongueHouse$Reader" "binders" "I" ∈ lw_tbl := pk_t2 _ (List.mem_of_getElem? (i := 15) rfl)
set_option maxRecDepth 100000 in
theorem gw2022 : Cond.fieldLink RX6 451 "TongueHouse$Store" "meanOp" "[I" ∈ lw_tbl := pk_t1 _ (List.mem_of_getElem? (i := 106) rfl)
set_option maxRecDepth 100000 in
theorem gw2023 : Cond.fieldLink RX6 454 "TongueHouse$Store" "meanName" "[J" ∈ lw_tbl := pk_t1 _ (List.mem_of_getElem? (i := 109) rfl)
set_option maxRecDepth 100000 in
theorem gw2024 : Cond.constantLong RX6 81 128021942465893 ∈ lw_tbl := pk_t4 _ (List.mem_of_getElem? (i := 21) rfl)
set_option maxRecDepth 100000 in
theorem gw2025 : Cond.constantLong RX6 87 1802071652 ∈ lw_tbl := pk_t4 _ (List.mem_of_getElem? (i := 199) rfl)
set_option maxRecDepth 100000 in
theorem gw2026 : Cond.constantLong RX6 97 6714734 ∈ lw_tbl := pk_t4 _ (List.mem_of_getElem? (i := 209) rfl)
set_option maxRecDepth 100000 in
theorem gw2027 : Cond.constantLong RX6 102 1835360622 ∈ lw_tbl := pk_t4 _ (List.mem_of_getElem? (i := 228) rfl)
set_option maxRecDepth 100000 in
theorem gw2028 : Cond.constantLong RX6 107 499967946343 ∈ lw_tbl := pk_t5 _ (List.mem_of_getElem? (i := 9) rfl)
set_option maxRecDepth 100000 in
theorem gw2029 : Cond.constantLong RX6 112 1717658484 ∈ lw_tbl := pk_t5 _ (List.mem_of_getElem? (i := 10) rfl)
set_option maxRecDepth 100000 in
theorem gw2030 : Cond.constantLong RX6 117 28821916864574053 ∈ lw_tbl := pk_t5 _ (List.mem_of_getElem? (i := 19) rfl)
set_option maxRecDepth 100000 in
theorem gw2031 : Cond.constantLong RX6 119 30510848328168051 ∈ lw_tbl := pk_t5 _ (List.mem_of_getElem? (i := 20) rfl)
set_option maxRecDepth 100000 in
theorem gw2032 : Cond.constantLong RX6 121 495791205988 ∈ lw_tbl := pk_t5 _ (List.mem_of_getElem? (i := 21) rfl)
set_option maxRecDepth 100000 in
theorem gw2033 : Cond.constantLong RX6 123 31632350188499566 ∈ lw_tbl := pk_t5 _ (List.mem_of_getElem? (i := 22) rfl)
set_option maxRecDepth 100000 in
theorem gw2034 : Cond.constantLong RX6 125 2003792484 ∈ lw_tbl := pk_t5 _ (List.mem_of_getElem? (i := 23) rfl)
set_option maxRecDepth 100000 in
theorem gw2035 : Cond.constantLong RX6 127 7104878 ∈ lw_tbl := pk_t5 _ (List.mem_of_getElem? (i := 24) rfl)
set_option maxRecDepth 100000 in
theorem gw2036 : Cond.constantLong RX6 181 1668248436 ∈ lw_tbl := pk_t4 _ (List.mem_of_getElem? (i := 222) rfl)
set_option maxRecDepth 100000 in
theorem gw2037 : Cond.constantLong RX6 318 28518 ∈ lw_tbl := pk_t5 _ (List.mem_of_getElem? (i := 62) rfl)
set_option maxRecDepth 100000 in
theorem gw2038 : Cond.constantLong RX6 357 6840691 ∈ lw_tbl := pk_t5 _ (List.mem_of_getElem? (i := 101) rfl)
set_option maxRecDepth 100000 in
theorem gw2039 : Cond.constantLong RX6 414 418347378021 ∈ lw_tbl := pk_t5 _ (List.mem_of_getElem? (i := 208) rfl)
set_option maxRecDepth 100000 in
theorem gw2040 : Cond.constantLong RX6 416 1734964837 ∈ lw_tbl := pk_t5 _ (List.mem_of_getElem? (i := 209) rfl)
set_option maxRecDepth 100000 in
theorem gw2041 : Cond.fieldLink RX7 9 "TongueHouse$Sayer" "child" "[I" ∈ lw_tbl := pk_t2 _ (List.mem_of_getElem? (i := 218) rfl)
set_option maxRecDepth 100000 in
theorem gw2042 : Cond.fieldLink RX7 15 "TongueHouse$Sayer" "options" "[I" ∈ lw_tbl := pk_t2 _ (List.mem_of_getElem? (i := 219) rfl)
set_option maxRecDepth 100000 in
theorem gw2043 : Cond.fieldLink RX7 18 "TongueHouse$Sayer" "cost" "[I" ∈ lw_tbl := pk_t2 _ (List.mem_of_getElem? (i := 220) rfl)
set_option maxRecDepth 100000 in
theorem gw2044 : Cond.fieldLink RX7 21 "TongueHouse$Sayer" "values" "[I" ∈ lw_tbl := pk_t2 _ (List.mem_of_getElem? (i := 221) rfl)
set_option maxRecDepth 100000 in
theorem gw2045 : Cond.fieldLink RX7 24 "TongueHouse$Sayer" "length" "[I" ∈ lw_tbl := pk_t2 _ (List.mem_of_getElem? (i := 222) rfl)
set_option maxRecDepth 100000 in
theorem gw2046 : Cond.fieldLink RX7 27 "TongueHouse$Sayer" "rule" "[I" ∈ lw_tbl := pk_t2 _ (List.mem_of_getElem? (i := 223) rfl)
set_option maxRecDepth 100000 in
theorem gw2047 : Cond.fieldLink RX7 30 "TongueHouse$Sayer" "picks" "[I" ∈ lw_tbl := pk_t2 _ (List.mem_of_getElem? (i := 224) rfl)
set_option maxRecDepth 100000 in
theorem gw2048 : Cond.fieldLink RX7 33 "TongueHouse$Sayer" "picked" "[I" ∈ lw_tbl := pk_t2 _ (List.mem_of_getElem? (i := 226) rfl)
set_option maxRecDepth 100000 in
theorem gw2049 : Cond.fieldLink RX7 36 "TongueHouse$Sayer" "work" "[I" ∈ lw_tbl := pk_t2 _ (List.mem_of_getElem? (i := 227) rfl)
set_option maxRecDepth 100000 in
theorem gw2050 : Cond.fieldLink RX7 39 "TongueHouse$Sayer" "openEntry" "[I" ∈ lw_tbl := pk_t2 _ (List.mem_of_getElem? (i := 228) rfl)
set_option maxRecDepth 100000 in
theorem gw2051 : Cond.fieldLink RX7 42 "TongueHouse$Sayer" "openItem" "[I" ∈ lw_tbl := pk_t2 _ (List.mem_of_getElem? (i := 229) rfl)
set_option maxRecDepth 100000 in
theorem gw2052 : Cond.fieldLink RX7 45 "TongueHouse$Sayer" "store" "LTongueHouse$Store;" ∈ lw_tbl := pk_t2 _ (List.mem_of_getElem? (i := 216) rfl)
set_option maxRecDepth 100000 in
theorem gw2053 : Cond.fieldLink RX7 49 "TongueHouse$Sayer" "tongue" "LTongueHouse$Tongue;" ∈ lw_tbl := pk_t2 _ (List.mem_of_getElem? (i := 217) rfl)
set_option maxRecDepth 100000 in
theorem gw2054 : Cond.fieldLink RX7 59 "TongueHouse$Sayer" "at" "I" ∈ lw_tbl := pk_t2 _ (List.mem_of_getElem? (i := 225) rfl)
set_option maxRecDepth 100000 in
theorem gw2055 : Cond.fieldLink RX7 63 "TongueHouse$Store" "funArity" "[I" ∈ lw_tbl := pk_t1 _ (List.mem_of_getElem? (i := 91) rfl)
set_option maxRecDepth 100000 in
theorem gw2056 : Cond.fieldLink RX7 73 "TongueHouse$Tongue" "wordCount" "I" ∈ lw_tbl := pk_t4 _ (List.mem_of_getElem? (i := 137) rfl)
set_option maxRecDepth 100000 in
theorem gw2057 : Cond.fieldLink RX7 85 "TongueHouse$Tongue" "forms" "LTongueHouse$Forms;" ∈ lw_tbl := pk_t4 _ (List.mem_of_getElem? (i := 155) rfl)
set_option maxRecDepth 100000 in
theorem gw2058 : Cond.fieldLink RX7 89 "TongueHouse$Forms" "size" "[I" ∈ lw_tbl := pk_t4 _ (List.mem_of_getElem? (i := 74) rfl)
set_option maxRecDepth 100000 in
theorem gw2059 : Cond.fieldLink RX7 97 "TongueHouse$Store" "funCost" "[I" ∈ lw_tbl := pk_t1 _ (List.mem_of_getElem? (i := 97) rfl)
set_option maxRecDepth 100000 in
theorem gw2060 : Cond.fieldLink RX7 107 "TongueHouse$Tongue" "linCount" "I" ∈ lw_tbl := pk_t4 _ (List.mem_of_getElem? (i := 145) rfl)
set_option maxRecDepth 100000 in
theorem gw2061 : Cond.fieldLink RX7 110 "TongueHouse$Tongue" "lins" "[LTongueHouse$Lin;" ∈ lw_tbl := pk_t4 _ (List.mem_of_getElem? (i := 149) rfl)
set_option maxRecDepth 100000 in
theorem gw2062 : Cond.fieldLink RX7 114 "TongueHouse$Lin" "fun" "I" ∈ lw_tbl := pk_t5 _ (List.mem_of_getElem? (i := 115) rfl)
set_option maxRecDepth 100000 in
theorem gw2063 : Cond.fieldLink RX7 119 "TongueHouse$Lin" "size" "I" ∈ lw_tbl := pk_t5 _ (List.mem_of_getElem? (i := 125) rfl)
set_option maxRecDepth 100000 in
theorem gw2064 : Cond.fieldLink RX7 121 "TongueHouse$Lin" "arg" "[I" ∈ lw_tbl := pk_t5 _ (List.mem_of_getElem? (i := 129) rfl)
set_option maxRecDepth 100000 in
theorem gw2065 : Cond.fieldLink RX7 124 "TongueHouse$Lin" "length" "[I" ∈ lw_tbl := pk_t5 _ (List.mem_of_getElem? (i := 137) rfl)
set_option maxRecDepth 100000 in
theorem gw2066 : Cond.fieldLink RX7 125 "TongueHouse$Lin" "cost" "I" ∈ lw_tbl := pk_t5 _ (List.mem_of_getElem? (i := 122) rfl)
set_option maxRecDepth 100000 in
theorem gw2067 : Cond.fieldLink RX7 131 "TongueHouse$Lin" "slots" "I" ∈ lw_tbl := pk_t5 _ (List.mem_of_getElem? (i := 141) rfl)
set_option maxRecDepth 100000 in
theorem gw2068 : Cond.fieldLink RX7 138 "TongueHouse$Lin" "number" "I" ∈ lw_tbl := pk_t5 _ (List.mem_of_getElem? (i := 112) rfl)
set_option maxRecDepth 100000 in
theorem gw2069 : Cond.fieldLink RX7 141 "TongueHouse$Lin" "slotArg" "[I" ∈ lw_tbl := pk_t5 _ (List.mem_of_getElem? (i := 145) rfl)
set_option maxRecDepth 100000 in
theorem gw2070 : Cond.fieldLink RX7 144 "TongueHouse$Lin" "slotNeed" "[I" ∈ lw_tbl := pk_t5 _ (List.mem_of_getElem? (i := 148) rfl)
set_option maxRecDepth 100000 in
theorem gw2071 : Cond.fieldLink RX7 155 "TongueHouse$Forms" "text" "[B" ∈ lw_tbl := pk_t4 _ (List.mem_of_getElem? (i := 71) rfl)
set_option maxRecDepth 100000 in
theorem gw2072 : Cond.fieldLink RX7 165 "TongueHouse$Store" "pool" "[B" ∈ lw_tbl := pk_t1 _ (List.mem_of_getElem? (i := 117) rfl)
set_option maxRecDepth 100000 in
theorem gw2073 : Cond.fieldLink RX7 168 "TongueHouse$Lin" "from" "[I" ∈ lw_tbl := pk_t5 _ (List.mem_of_getElem? (i := 133) rfl)
set_option maxRecDepth 100000 in
theorem gw2074 : Cond.fieldLink RX7 171 "TongueHouse$Lin" "slotOf" "[I" ∈ lw_tbl := pk_t5 _ (List.mem_of_getElem? (i := 152) rfl)
set_option maxRecDepth 100000 in
theorem gw2075 : Cond.fieldLink RX8 18 "TongueHouse$Store" "kinds" "LTongueHouse$Names;" ∈ lw_tbl := pk_t1 _ (List.mem_of_getElem? (i := 66) rfl)
set_option maxRecDepth 100000 in
theorem gw2076 : Cond.fieldLink RX8 22 "TongueHouse$Store" "funs" "LTongueHouse$Names;" ∈ lw_tbl := pk_t1 _ (List.mem_of_getElem? (i := 71) rfl)
set_option maxRecDepth 100000 in
theorem gw2077 : Cond.fieldLink RX8 25 "TongueHouse$Store" "things" "LTongueHouse$Names;" ∈ lw_tbl := pk_t1 _ (List.mem_of_getElem? (i := 74) rfl)
set_option maxRecDepth 100000 in
theorem gw2078 : Cond.fieldLink RX8 28 "TongueHouse$Store" "tongueNames" "LTongueHouse$Names;" ∈ lw_tbl := pk_t1 _ (List.mem_of_getElem? (i := 77) rfl)
set_option maxRecDepth 100000 in
theorem gw2079 : Cond.fieldLink RX8 31 "TongueHouse$Store" "tongues" "[LTongueHouse$Tongue;" ∈ lw_tbl := pk_t1 _ (List.mem_of_getElem? (i := 80) rfl)
set_option maxRecDepth 100000 in
theorem gw2080 : Cond.fieldLink RX8 35 "TongueHouse$Store" "current" "I" ∈ lw_tbl := pk_t1 _ (List.mem_of_getElem? (i := 84) rfl)
set_option maxRecDepth 100000 in
theorem gw2081 : Cond.fieldLink RX8 39 "TongueHouse$Store" "funKind" "[I" ∈ lw_tbl := pk_t1 _ (List.mem_of_getElem? (i := 86) rfl)
set_option maxRecDepth 100000 in
theorem gw2082 : Cond.fieldLink RX8 43 "TongueHouse$Store" "funArity" "[I" ∈ lw_tbl := pk_t1 _ (List.mem_of_getElem? (i := 90) rfl)
set_option maxRecDepth 100000 in
theorem gw2083 : Cond.fieldLink RX8 46 "TongueHouse$Store" "funArgs" "[I" ∈ lw_tbl := pk_t1 _ (List.mem_of_getElem? (i := 93) rfl)
set_option maxRecDepth 100000 in
theorem gw2084 : Cond.fieldLink RX8 49 "TongueHouse$Store" "funCost" "[I" ∈ lw_tbl := pk_t1 _ (List.mem_of_getElem? (i := 96) rfl)
set_option maxRecDepth 100000 in
theorem gw2085 : Cond.fieldLink RX8 52 "TongueHouse$Store" "meanSize" "[I" ∈ lw_tbl := pk_t1 _ (List.mem_of_getElem? (i := 101) rfl)
set_option maxRecDepth 100000 in
theorem gw2086 : Cond.fieldLink RX8 55 "TongueHouse$Store" "meanOp" "[I" ∈ lw_tbl := pk_t1 _ (List.mem_of_getElem? (i := 104) rfl)
set_option maxRecDepth 100000 in
theorem gw2087 : Cond.fieldLink RX8 58 "TongueHouse$Store" "meanName" "[J" ∈ lw_tbl := pk_t1 _ (List.mem_of_getElem? (i := 107) rfl)
set_option maxRecDepth 100000 in
theorem gw2088 : Cond.fieldLink RX8 62 "TongueHouse$Store" "factName" "[J" ∈ lw_tbl := pk_t1 _ (List.mem_of_getElem? (i := 112) rfl)
set_option maxRecDepth 100000 in
theorem gw2089 : Cond.fieldLink RX8 65 "TongueHouse$Store" "factThings" "[I" ∈ lw_tbl := pk_t1 _ (List.mem_of_getElem? (i := 114) rfl)
set_option maxRecDepth 100000 in
theorem gw2090 : Cond.fieldLink RX8 68 "TongueHouse$Store" "pool" "[B" ∈ lw_tbl := pk_t1 _ (List.mem_of_getElem? (i := 116) rfl)
set_option maxRecDepth 100000 in
theorem gw2091 : Cond.fieldLink RX8 72 "TongueHouse$Store" "marks" "[I" ∈ lw_tbl := pk_t1 _ (List.mem_of_getElem? (i := 123) rfl)
set_option maxRecDepth 100000 in
theorem gw2092 : Cond.fieldLink RX8 75 "TongueHouse$Store" "stack" "[I" ∈ lw_tbl := pk_t1 _ (List.mem_of_getElem? (i := 124) rfl)
set_option maxRecDepth 100000 in
theorem gw2093 : Cond.fieldLink RX8 78 "TongueHouse$Store" "isFull" "Z" ∈ lw_tbl := pk_t1 _ (List.mem_of_getElem? (i := 121) rfl)
set_option maxRecDepth 100000 in
theorem gw2094 : Cond.fieldLink RX8 82 "TongueHouse$Names" "size" "I" ∈ lw_tbl := pk_t1 _ (List.mem_of_getElem? (i := 52) rfl)
set_option maxRecDepth 100000 in
theorem gw2095 : Cond.fieldLink RX8 85 "TongueHouse$Store" "factCount" "I" ∈ lw_tbl := pk_t1 _ (List.mem_of_getElem? (i := 110) rfl)
set_option maxRecDepth 100000 in
theorem gw2096 : Cond.fieldLink RX8 88 "TongueHouse$Store" "poolSize" "I" ∈ lw_tbl := pk_t1 _ (List.mem_of_getElem? (i := 119) rfl)
set_option maxRecDepth 100000 in
theorem gw2097 : Cond.fieldLink RX8 114 "TongueHouse$Names" "name" "[J" ∈ lw_tbl := pk_t1 _ (List.mem_of_getElem? (i := 49) rfl)
set_option maxRecDepth 100000 in
theorem gw2098 : Cond.fieldLink RX9 11 "TongueHouse$Text" "bytes" "[B" ∈ lw_tbl := pk_t1 _ (List.mem_of_getElem? (i := 176) rfl)
set_option maxRecDepth 100000 in
theorem gw2099 : Cond.fieldLink RX9 15 "TongueHouse$Text" "start" "[I" ∈ lw_tbl := pk_t1 _ (List.mem_of_getElem? (i := 186) rfl)
set_option maxRecDepth 100000 in
theorem gw2100 : Cond.fieldLink RX9 19 "TongueHouse$Text" "len" "[I" ∈ lw_tbl := pk_t1 _ (List.mem_of_getElem? (i := 190) rfl)
set_option maxRecDepth 100000 in
theorem gw2101 : Cond.fieldLink RX9 22 "TongueHouse$Text" "size" "I" ∈ lw_tbl := pk_t1 _ (List.mem_of_getElem? (i := 182) rfl)
set_option maxRecDepth 100000 in
theorem gw2102 : Cond.fieldLink RX9 34 "TongueHouse$Text" "words" "I" ∈ lw_tbl := pk_t1 _ (List.mem_of_getElem? (i := 195) rfl)
set_option maxRecDepth 100000 in
theorem gw2103 : Cond.fieldLink RX9 49 "TongueHouse$Text" "next" "I" ∈ lw_tbl := pk_t1 _ (List.mem_of_getElem? (i := 201) rfl)
set_option maxRecDepth 100000 in
theorem gw2104 : Cond.fieldLink RX9 55 "TongueHouse$Text" "at" "I" ∈ lw_tbl := pk_t1 _ (List.mem_of_getElem? (i := 200) rfl)
set_option maxRecDepth 100000 in
theorem gw2105 : Cond.fieldLink RX9 58 "TongueHouse$Text" "type" "I" ∈ lw_tbl := pk_t1 _ (List.mem_of_getElem? (i := 205) rfl)
set_option maxRecDepth 100000 in
theorem gw2106 : Cond.fieldLink RX9 73 "TongueHouse$Text" "name" "J" ∈ lw_tbl := pk_t1 _ (List.mem_of_getElem? (i := 210) rfl)
set_option maxRecDepth 100000 in
theorem gw2107 : Cond.fieldLink RX9 77 "TongueHouse$Text" "value" "I" ∈ lw_tbl := pk_t1 _ (List.mem_of_getElem? (i := 207) rfl)
set_option maxRecDepth 100000 in
theorem gw2108 : Cond.constant RX9 44 (Int32.ofInt 100000000) ∈ lw_tbl := pk_t8 _ (List.mem_of_getElem? (i := 133) rfl)
set_option maxRecDepth 100000 in
theorem gw2109 : Cond.fieldLink RX10 11 "TongueHouse$Thought" "op" "[I" ∈ lw_tbl := pk_t3 _ (List.mem_of_getElem? (i := 27) rfl)
set_option maxRecDepth 100000 in
theorem gw2110 : Cond.fieldLink RX10 15 "TongueHouse$Thought" "name" "[J" ∈ lw_tbl := pk_t3 _ (List.mem_of_getElem? (i := 28) rfl)
set_option maxRecDepth 100000 in
theorem gw2111 : Cond.fieldLink RX10 19 "TongueHouse$Thought" "nextOp" "[I" ∈ lw_tbl := pk_t3 _ (List.mem_of_getElem? (i := 29) rfl)
set_option maxRecDepth 100000 in
theorem gw2112 : Cond.fieldLink RX10 22 "TongueHouse$Thought" "nextName" "[J" ∈ lw_tbl := pk_t3 _ (List.mem_of_getElem? (i := 30) rfl)
set_option maxRecDepth 100000 in
theorem gw2113 : Cond.fieldLink RX10 25 "TongueHouse$Thought" "child" "[I" ∈ lw_tbl := pk_t3 _ (List.mem_of_getElem? (i := 31) rfl)
set_option maxRecDepth 100000 in
theorem gw2114 : Cond.fieldLink RX10 28 "TongueHouse$Thought" "stack" "[I" ∈ lw_tbl := pk_t3 _ (List.mem_of_getElem? (i := 32) rfl)
set_option maxRecDepth 100000 in
theorem gw2115 : Cond.fieldLink RX10 31 "TongueHouse$Thought" "inner" "[I" ∈ lw_tbl := pk_t3 _ (List.mem_of_getElem? (i := 33) rfl)
set_option maxRecDepth 100000 in
theorem gw2116 : Cond.fieldLink RX10 34 "TongueHouse$Thought" "openName" "[J" ∈ lw_tbl := pk_t3 _ (List.mem_of_getElem? (i := 35) rfl)
set_option maxRecDepth 100000 in
theorem gw2117 : Cond.fieldLink RX10 37 "TongueHouse$Thought" "openPart" "[I" ∈ lw_tbl := pk_t3 _ (List.mem_of_getElem? (i := 36) rfl)
set_option maxRecDepth 100000 in
theorem gw2118 : Cond.fieldLink RX10 40 "TongueHouse$Thought" "openSeen" "[I" ∈ lw_tbl := pk_t3 _ (List.mem_of_getElem? (i := 37) rfl)
set_option maxRecDepth 100000 in
theorem gw2119 : Cond.fieldLink RX10 43 "TongueHouse$Thought" "openValue" "[I" ∈ lw_tbl := pk_t3 _ (List.mem_of_getElem? (i := 38) rfl)
set_option maxRecDepth 100000 in
theorem gw2120 : Cond.fieldLink RX10 46 "TongueHouse$Thought" "openLevel" "[I" ∈ lw_tbl := pk_t3 _ (List.mem_of_getElem? (i := 39) rfl)
set_option maxRecDepth 100000 in
theorem gw2121 : Cond.fieldLink RX10 49 "TongueHouse$Thought" "thing" "[I" ∈ lw_tbl := pk_t3 _ (List.mem_of_getElem? (i := 40) rfl)
set_option maxRecDepth 100000 in
theorem gw2122 : Cond.fieldLink RX10 52 "TongueHouse$Thought" "store" "LTongueHouse$Store;" ∈ lw_tbl := pk_t3 _ (List.mem_of_getElem? (i := 25) rfl)
set_option maxRecDepth 100000 in
theorem gw2123 : Cond.fieldLink RX10 56 "TongueHouse$Store" "meanSize" "[I" ∈ lw_tbl := pk_t1 _ (List.mem_of_getElem? (i := 102) rfl)
set_option maxRecDepth 100000 in
theorem gw2124 : Cond.fieldLink RX10 73 "TongueHouse$Thought" "size" "I" ∈ lw_tbl := pk_t3 _ (List.mem_of_getElem? (i := 26) rfl)
set_option maxRecDepth 100000 in
theorem gw2125 : Cond.fieldLink RX10 78 "TongueHouse$Store" "meanOp" "[I" ∈ lw_tbl := pk_t1 _ (List.mem_of_getElem? (i := 105) rfl)
set_option maxRecDepth 100000 in
theorem gw2126 : Cond.fieldLink RX10 81 "TongueHouse$Store" "meanName" "[J" ∈ lw_tbl := pk_t1 _ (List.mem_of_getElem? (i := 108) rfl)
set_option maxRecDepth 100000 in
theorem gw2127 : Cond.fieldLink RX10 123 "TongueHouse$Thought" "at" "I" ∈ lw_tbl := pk_t3 _ (List.mem_of_getElem? (i := 41) rfl)
set_option maxRecDepth 100000 in
theorem gw2128 : Cond.fieldLink RX10 126 "TongueHouse$Thought" "level" "I" ∈ lw_tbl := pk_t3 _ (List.mem_of_getElem? (i := 42) rfl)
set_option maxRecDepth 100000 in
theorem gw2129 : Cond.fieldLink RX10 129 "TongueHouse$Thought" "open" "I" ∈ lw_tbl := pk_t3 _ (List.mem_of_getElem? (i := 34) rfl)
set_option maxRecDepth 100000 in
theorem gw2130 : Cond.fieldLink RX10 132 "TongueHouse$Thought" "astray" "Z" ∈ lw_tbl := pk_t3 _ (List.mem_of_getElem? (i := 43) rfl)
set_option maxRecDepth 100000 in
theorem gw2131 : Cond.fieldLink RX10 174 "TongueHouse$Store" "things" "LTongueHouse$Names;" ∈ lw_tbl := pk_t1 _ (List.mem_of_getElem? (i := 76) rfl)
set_option maxRecDepth 100000 in
theorem gw2132 : Cond.fieldLink RX10 184 "TongueHouse$Names" "size" "I" ∈ lw_tbl := pk_t1 _ (List.mem_of_getElem? (i := 57) rfl)
set_option maxRecDepth 100000 in
theorem gw2133 : Cond.constant RX10 77 (Int32.ofInt 2000000) ∈ lw_tbl := pk_t8 _ (List.mem_of_getElem? (i := 102) rfl)
set_option maxRecDepth 100000 in
theorem gw2134 : Cond.constantLong RX10 146 6385252 ∈ lw_tbl := pk_t8 _ (List.mem_of_getElem? (i := 157) rfl)
set_option maxRecDepth 100000 in
theorem gw2135 : Cond.constantLong RX10 148 28530 ∈ lw_tbl := pk_t8 _ (List.mem_of_getElem? (i := 158) rfl)
set_option maxRecDepth 100000 in
theorem gw2136 : Cond.constantLong RX10 150 26982 ∈ lw_tbl := pk_t8 _ (List.mem_of_getElem? (i := 167) rfl)
set_option maxRecDepth 100000 in
theorem gw2137 : Cond.constantLong RX10 156 7237492 ∈ lw_tbl := pk_t8 _ (List.mem_of_getElem? (i := 156) rfl)
set_option maxRecDepth 100000 in
theorem gw2138 : Cond.constantLong RX10 158 6384748 ∈ lw_tbl := pk_t8 _ (List.mem_of_getElem? (i := 154) rfl)
set_option maxRecDepth 100000 in
theorem gw2139 : Cond.constantLong RX10 160 1936682341 ∈ lw_tbl := pk_t8 _ (List.mem_of_getElem? (i := 155) rfl)
set_option maxRecDepth 100000 in
theorem gw2140 : Cond.constantLong RX10 169 26995 ∈ lw_tbl := pk_t8 _ (List.mem_of_getElem? (i := 181) rfl)
set_option maxRecDepth 100000 in
theorem gw2141 : Cond.fieldLink RX11 14 "TongueHouse$Tongue" "features" "LTongueHouse$Names;" ∈ lw_tbl := pk_t4 _ (List.mem_of_getElem? (i := 108) rfl)
set_option maxRecDepth 100000 in
theorem gw2142 : Cond.fieldLink RX11 20 "TongueHouse$Tongue" "values" "LTongueHouse$Names;" ∈ lw_tbl := pk_t4 _ (List.mem_of_getElem? (i := 110) rfl)
set_option maxRecDepth 100000 in
theorem gw2143 : Cond.fieldLink RX11 23 "TongueHouse$Tongue" "valueFeature" "[I" ∈ lw_tbl := pk_t4 _ (List.mem_of_getElem? (i := 112) rfl)
set_option maxRecDepth 100000 in
theorem gw2144 : Cond.fieldLink RX11 27 "TongueHouse$Tongue" "valueRank" "[I" ∈ lw_tbl := pk_t4 _ (List.mem_of_getElem? (i := 114) rfl)
set_option maxRecDepth 100000 in
theorem gw2145 : Cond.fieldLink RX11 30 "TongueHouse$Tongue" "classes" "LTongueHouse$Names;" ∈ lw_tbl := pk_t4 _ (List.mem_of_getElem? (i := 116) rfl)
set_option maxRecDepth 100000 in
theorem gw2146 : Cond.fieldLink RX11 33 "TongueHouse$Tongue" "classMask" "[I" ∈ lw_tbl := pk_t4 _ (List.mem_of_getElem? (i := 118) rfl)
set_option maxRecDepth 100000 in
theorem gw2147 : Cond.fieldLink RX11 36 "TongueHouse$Tongue" "sound" "[I" ∈ lw_tbl := pk_t4 _ (List.mem_of_getElem? (i := 124) rfl)
set_option maxRecDepth 100000 in
theorem gw2148 : Cond.fieldLink RX11 39 "TongueHouse$Tongue" "patterns" "LTongueHouse$Names;" ∈ lw_tbl := pk_t4 _ (List.mem_of_getElem? (i := 127) rfl)
set_option maxRecDepth 100000 in
theorem gw2149 : Cond.fieldLink RX11 42 "TongueHouse$Tongue" "cellCount" "[I" ∈ lw_tbl := pk_t4 _ (List.mem_of_getElem? (i := 130) rfl)
set_option maxRecDepth 100000 in
theorem gw2150 : Cond.fieldLink RX11 45 "TongueHouse$Tongue" "cell" "[I" ∈ lw_tbl := pk_t4 _ (List.mem_of_getElem? (i := 132) rfl)
set_option maxRecDepth 100000 in
theorem gw2151 : Cond.fieldLink RX11 48 "TongueHouse$Tongue" "word" "[I" ∈ lw_tbl := pk_t4 _ (List.mem_of_getElem? (i := 141) rfl)
set_option maxRecDepth 100000 in
theorem gw2152 : Cond.fieldLink RX11 53 "TongueHouse$Tongue" "lins" "[LTongueHouse$Lin;" ∈ lw_tbl := pk_t4 _ (List.mem_of_getElem? (i := 148) rfl)
set_option maxRecDepth 100000 in
theorem gw2153 : Cond.fieldLink RX11 62 "TongueHouse$Tongue" "forms" "LTongueHouse$Forms;" ∈ lw_tbl := pk_t4 _ (List.mem_of_getElem? (i := 153) rfl)
set_option maxRecDepth 100000 in
theorem gw2154 : Cond.fieldLink RX11 66 "TongueHouse$Names" "size" "I" ∈ lw_tbl := pk_t1 _ (List.mem_of_getElem? (i := 51) rfl)
set_option maxRecDepth 100000 in
theorem gw2155 : Cond.fieldLink RX11 70 "TongueHouse$Tongue" "soundCount" "I" ∈ lw_tbl := pk_t4 _ (List.mem_of_getElem? (i := 122) rfl)
set_option maxRecDepth 100000 in
theorem gw2156 : Cond.fieldLink RX11 73 "TongueHouse$Tongue" "wordCount" "I" ∈ lw_tbl := pk_t4 _ (List.mem_of_getElem? (i := 136) rfl)
set_option maxRecDepth 100000 in
theorem gw2157 : Cond.fieldLink RX11 76 "TongueHouse$Tongue" "linCount" "I" ∈ lw_tbl := pk_t4 _ (List.mem_of_getElem? (i := 144) rfl)
set_option maxRecDepth 100000 in
theorem gw2158 : Cond.fieldLink RX11 83 "TongueHouse$Lin" "fun" "I" ∈ lw_tbl := pk_t5 _ (List.mem_of_getElem? (i := 118) rfl)
set_option maxRecDepth 100000 in
theorem gw2159 : Cond.fieldLink RX12 12 "TongueHouse" "store" "LTongueHouse$Store;" ∈ lw_tbl := pk_t3 _ (List.mem_of_getElem? (i := 155) rfl)
set_option maxRecDepth 100000 in
theorem gw2160 : Cond.fieldLink RX12 19 "TongueHouse" "tape" "LTongueHouse$Text;" ∈ lw_tbl := pk_t3 _ (List.mem_of_getElem? (i := 156) rfl)
set_option maxRecDepth 100000 in
theorem gw2161 : Cond.fieldLink RX12 23 "TongueHouse" "out" "LTongueHouse$Text;" ∈ lw_tbl := pk_t3 _ (List.mem_of_getElem? (i := 157) rfl)
set_option maxRecDepth 100000 in
theorem gw2162 : Cond.fieldLink RX12 26 "TongueHouse" "base" "LTongueHouse$Text;" ∈ lw_tbl := pk_t3 _ (List.mem_of_getElem? (i := 158) rfl)
set_option maxRecDepth 100000 in
theorem gw2163 : Cond.fieldLink RX12 29 "TongueHouse" "draft" "LTongueHouse$Text;" ∈ lw_tbl := pk_t3 _ (List.mem_of_getElem? (i := 159) rfl)
set_option maxRecDepth 100000 in
theorem gw2164 : Cond.fieldLink RX12 37 "TongueHouse" "reader" "LTongueHouse$Reader;" ∈ lw_tbl := pk_t3 _ (List.mem_of_getElem? (i := 160) rfl)
set_option maxRecDepth 100000 in
theorem gw2165 : Cond.fieldLink RX12 46 "TongueHouse" "chart" "LTongueHouse$Chart;" ∈ lw_tbl := pk_t3 _ (List.mem_of_getElem? (i := 161) rfl)
set_option maxRecDepth 100000 in
theorem gw2166 : Cond.fieldLink RX12 55 "TongueHouse" "ranking" "LTongueHouse$Ranking;" ∈ lw_tbl := pk_t3 _ (List.mem_of_getElem? (i := 162) rfl)
set_option maxRecDepth 100000 in
theorem gw2167 : Cond.fieldLink RX12 62 "TongueHouse" "sayer" "LTongueHouse$Sayer;" ∈ lw_tbl := pk_t3 _ (List.mem_of_getElem? (i := 163) rfl)
set_option maxRecDepth 100000 in
theorem gw2168 : Cond.fieldLink RX12 69 "TongueHouse" "thought" "LTongueHouse$Thought;" ∈ lw_tbl := pk_t3 _ (List.mem_of_getElem? (i := 164) rfl)
set_option maxRecDepth 100000 in
theorem gw2169 : Cond.fieldLink RX12 76 "TongueHouse" "finder" "LTongueHouse$Finder;" ∈ lw_tbl := pk_t3 _ (List.mem_of_getElem? (i := 165) rfl)
set_option maxRecDepth 100000 in
theorem gw2170 : Cond.fieldLink RX12 82 "TongueHouse" "planted" "[[I" ∈ lw_tbl := pk_t3 _ (List.mem_of_getElem? (i := 166) rfl)
set_option maxRecDepth 100000 in
theorem gw2171 : Cond.fieldLink RX12 85 "TongueHouse" "plantedSize" "[I" ∈ lw_tbl := pk_t3 _ (List.mem_of_getElem? (i := 167) rfl)
set_option maxRecDepth 100000 in
theorem gw2172 : Cond.fieldLink RX12 91 "TongueHouse" "candidates" "[[B" ∈ lw_tbl := pk_t3 _ (List.mem_of_getElem? (i := 168) rfl)
set_option maxRecDepth 100000 in
theorem gw2173 : Cond.fieldLink RX12 94 "TongueHouse" "candidateSize" "[I" ∈ lw_tbl := pk_t3 _ (List.mem_of_getElem? (i := 169) rfl)
set_option maxRecDepth 100000 in
theorem gw2174 : Cond.fieldLink RX12 97 "TongueHouse" "changes" "[I" ∈ lw_tbl := pk_t3 _ (List.mem_of_getElem? (i := 171) rfl)
set_option maxRecDepth 100000 in
theorem gw2175 : Cond.fieldLink RX12 100 "TongueHouse$Text" "size" "I" ∈ lw_tbl := pk_t1 _ (List.mem_of_getElem? (i := 183) rfl)
set_option maxRecDepth 100000 in
theorem gw2176 : Cond.fieldLink RX12 123 "TongueHouse$Text" "type" "I" ∈ lw_tbl := pk_t1 _ (List.mem_of_getElem? (i := 203) rfl)
set_option maxRecDepth 100000 in
theorem gw2177 : Cond.fieldLink RX12 133 "TongueHouse$Reader" "where" "I" ∈ lw_tbl := pk_t2 _ (List.mem_of_getElem? (i := 4) rfl)
set_option maxRecDepth 100000 in
theorem gw2178 : Cond.fieldLink RX12 136 "TongueHouse$Reader" "rule" "I" ∈ lw_tbl := pk_t2 _ (List.mem_of_getElem? (i := 2) rfl)
set_option maxRecDepth 100000 in
theorem gw2179 : Cond.fieldLink RX12 139 "TongueHouse$Text" "bytes" "[B" ∈ lw_tbl := pk_t1 _ (List.mem_of_getElem? (i := 179) rfl)
set_option maxRecDepth 100000 in
theorem gw2180 : Cond.fieldLink RX12 145 "TongueHouse$Store" "kinds" "LTongueHouse$Names;" ∈ lw_tbl := pk_t1 _ (List.mem_of_getElem? (i := 69) rfl)
set_option maxRecDepth 100000 in
theorem gw2181 : Cond.fieldLink RX12 149 "TongueHouse$Store" "tongueNames" "LTongueHouse$Names;" ∈ lw_tbl := pk_t1 _ (List.mem_of_getElem? (i := 78) rfl)
set_option maxRecDepth 100000 in
theorem gw2182 : Cond.fieldLink RX12 152 "TongueHouse$Store" "funs" "LTongueHouse$Names;" ∈ lw_tbl := pk_t1 _ (List.mem_of_getElem? (i := 72) rfl)
set_option maxRecDepth 100000 in
theorem gw2183 : Cond.fieldLink RX12 178 "TongueHouse$Tongue" "forms" "LTongueHouse$Forms;" ∈ lw_tbl := pk_t4 _ (List.mem_of_getElem? (i := 157) rfl)
set_option maxRecDepth 100000 in
theorem gw2184 : Cond.fieldLink RX12 188 "TongueHouse$Forms" "from" "[B" ∈ lw_tbl := pk_t4 _ (List.mem_of_getElem? (i := 83) rfl)
set_option maxRecDepth 100000 in
theorem gw2185 : Cond.fieldLink RX12 207 "TongueHouse$Tongue" "wordCount" "I" ∈ lw_tbl := pk_t4 _ (List.mem_of_getElem? (i := 139) rfl)
set_option maxRecDepth 100000 in
theorem gw2186 : Cond.fieldLink RX12 218 "TongueHouse$Forms" "size" "[I" ∈ lw_tbl := pk_t4 _ (List.mem_of_getElem? (i := 75) rfl)
set_option maxRecDepth 100000 in
theorem gw2187 : Cond.fieldLink RX12 220 "TongueHouse$Forms" "text" "[B" ∈ lw_tbl := pk_t4 _ (List.mem_of_getElem? (i := 72) rfl)
set_option maxRecDepth 100000 in
theorem gw2188 : Cond.fieldLink RX12 239 "TongueHouse$Names" "size" "I" ∈ lw_tbl := pk_t1 _ (List.mem_of_getElem? (i := 56) rfl)
set_option maxRecDepth 100000 in
theorem gw2189 : Cond.fieldLink RX12 289 "TongueHouse" "candidateCount" "I" ∈ lw_tbl := pk_t3 _ (List.mem_of_getElem? (i := 170) rfl)
set_option maxRecDepth 100000 in
theorem gw2190 : Cond.fieldLink RX12 319 "TongueHouse$Text" "words" "I" ∈ lw_tbl := pk_t1 _ (List.mem_of_getElem? (i := 197) rfl)
set_option maxRecDepth 100000 in
theorem gw2191 : Cond.fieldLink RX12 346 "TongueHouse$Chart" "nodes" "I" ∈ lw_tbl := pk_t2 _ (List.mem_of_getElem? (i := 72) rfl)
set_option maxRecDepth 100000 in
theorem gw2192 : Cond.fieldLink RX12 349 "TongueHouse$Chart" "ways" "I" ∈ lw_tbl := pk_t2 _ (List.mem_of_getElem? (i := 79) rfl)
set_option maxRecDepth 100000 in
theorem gw2193 : Cond.fieldLink RX12 352 "TongueHouse$Finder" "collected" "I" ∈ lw_tbl := pk_t3 _ (List.mem_of_getElem? (i := 103) rfl)
set_option maxRecDepth 100000 in
theorem gw2194 : Cond.fieldLink RX12 356 "TongueHouse$Store" "tongues" "[LTongueHouse$Tongue;" ∈ lw_tbl := pk_t1 _ (List.mem_of_getElem? (i := 83) rfl)
set_option maxRecDepth 100000 in
theorem gw2195 : Cond.fieldLink RX12 374 "TongueHouse$Text" "start" "[I" ∈ lw_tbl := pk_t1 _ (List.mem_of_getElem? (i := 189) rfl)
set_option maxRecDepth 100000 in
theorem gw2196 : Cond.fieldLink RX12 377 "TongueHouse$Text" "len" "[I" ∈ lw_tbl := pk_t1 _ (List.mem_of_getElem? (i := 193) rfl)
set_option maxRecDepth 100000 in
theorem gw2197 : Cond.fieldLink RX12 384 "TongueHouse$Forms" "found" "[I" ∈ lw_tbl := pk_t4 _ (List.mem_of_getElem? (i := 81) rfl)
set_option maxRecDepth 100000 in
theorem gw2198 : Cond.constant RX12 391 (Int32.ofInt 65536) ∈ lw_tbl := pk_t9 _ (List.mem_of_getElem? (i := 55) rfl)
set_option maxRecDepth 100000 in
theorem gw2199 : Cond.constant RX12 392 (Int32.ofInt 131072) ∈ lw_tbl := pk_t9 _ (List.mem_of_getElem? (i := 56) rfl)
set_option maxRecDepth 100000 in
theorem gw2200 : Cond.constant RX12 393 (Int32.ofInt 196608) ∈ lw_tbl := pk_t9 _ (List.mem_of_getElem? (i := 57) rfl)
set_option maxRecDepth 100000 in
theorem gw2201 : Cond.fieldLink RX13 3 "TongueHouseModel" "thrown" "I" ∈ lw_tbl := pk_t9 _ (List.mem_of_getElem? (i := 171) rfl)
set_option maxRecDepth 100000 in
theorem gw2202 : Cond.fieldLink RX13 576 "TongueHouseModel" "taped" "I" ∈ lw_tbl := pk_t9 _ (List.mem_of_getElem? (i := 239) rfl)
set_option maxRecDepth 100000 in
theorem gw2203 : Cond.fieldLink RX13 586 "TongueHouseModel" "textN" "I" ∈ lw_tbl := pk_t10 _ (List.mem_of_getElem? (i := 0) rfl)
set_option maxRecDepth 100000 in
theorem gw2204 : Cond.fieldLink RX13 589 "TongueHouseModel" "outN" "I" ∈ lw_tbl := pk_t10 _ (List.mem_of_getElem? (i := 1) rfl)
set_option maxRecDepth 100000 in
theorem gw2205 : Cond.fieldLink RX13 597 "TongueHouseModel" "tkEnd" "I" ∈ lw_tbl := pk_t10 _ (List.mem_of_getElem? (i := 4) rfl)
set_option maxRecDepth 100000 in
theorem gw2206 : Cond.fieldLink RX13 600 "TongueHouseModel" "tkAt" "I" ∈ lw_tbl := pk_t10 _ (List.mem_of_getElem? (i := 3) rfl)
set_option maxRecDepth 100000 in
theorem gw2207 : Cond.fieldLink RX13 603 "TongueHouseModel" "tkNumber" "I" ∈ lw_tbl := pk_t10 _ (List.mem_of_getElem? (i := 5) rfl)
set_option maxRecDepth 100000 in
theorem gw2208 : Cond.fieldLink RX13 606 "TongueHouseModel" "tkName" "J" ∈ lw_tbl := pk_t10 _ (List.mem_of_getElem? (i := 6) rfl)
set_option maxRecDepth 100000 in
theorem gw2209 : Cond.fieldLink RX13 609 "TongueHouseModel" "tk" "I" ∈ lw_tbl := pk_t10 _ (List.mem_of_getElem? (i := 2) rfl)
set_option maxRecDepth 100000 in
theorem gw2210 : Cond.fieldLink RX13 637 "TongueHouseModel" "letters" "I" ∈ lw_tbl := pk_t9 _ (List.mem_of_getElem? (i := 230) rfl)
set_option maxRecDepth 100000 in
theorem gw2211 : Cond.fieldLink RX13 639 "TongueHouseModel" "wrong" "I" ∈ lw_tbl := pk_t10 _ (List.mem_of_getElem? (i := 7) rfl)
set_option maxRecDepth 100000 in
theorem gw2212 : Cond.fieldLink RX13 642 "TongueHouseModel" "wrongAt" "I" ∈ lw_tbl := pk_t10 _ (List.mem_of_getElem? (i := 8) rfl)
set_option maxRecDepth 100000 in
theorem gw2213 : Cond.fieldLink RX13 658 "TongueHouseModel" "tongues" "I" ∈ lw_tbl := pk_t9 _ (List.mem_of_getElem? (i := 172) rfl)
set_option maxRecDepth 100000 in
theorem gw2214 : Cond.fieldLink RX13 661 "TongueHouseModel" "kinds" "I" ∈ lw_tbl := pk_t9 _ (List.mem_of_getElem? (i := 173) rfl)
set_option maxRecDepth 100000 in
theorem gw2215 : Cond.fieldLink RX13 664 "TongueHouseModel" "funs" "I" ∈ lw_tbl := pk_t9 _ (List.mem_of_getElem? (i := 174) rfl)
set_option maxRecDepth 100000 in
theorem gw2216 : Cond.fieldLink RX13 667 "TongueHouseModel" "things" "I" ∈ lw_tbl := pk_t9 _ (List.mem_of_getElem? (i := 175) rfl)
set_option maxRecDepth 100000 in
theorem gw2217 : Cond.fieldLink RX13 670 "TongueHouseModel" "facts" "I" ∈ lw_tbl := pk_t9 _ (List.mem_of_getElem? (i := 176) rfl)
set_option maxRecDepth 100000 in
theorem gw2218 : Cond.fieldLink RX13 673 "TongueHouseModel" "parts" "I" ∈ lw_tbl := pk_t9 _ (List.mem_of_getElem? (i := 213) rfl)
set_option maxRecDepth 100000 in
theorem gw2219 : Cond.fieldLink RX13 676 "TongueHouseModel" "terms" "I" ∈ lw_tbl := pk_t9 _ (List.mem_of_getElem? (i := 235) rfl)
set_option maxRecDepth 100000 in
theorem gw2220 : Cond.fieldLink RX13 679 "TongueHouseModel" "meants" "I" ∈ lw_tbl := pk_t10 _ (List.mem_of_getElem? (i := 30) rfl)
set_option maxRecDepth 100000 in
theorem gw2221 : Cond.fieldLink RX13 695 "TongueHouseModel" "lastRule" "I" ∈ lw_tbl := pk_t10 _ (List.mem_of_getElem? (i := 10) rfl)
set_option maxRecDepth 100000 in
theorem gw2222 : Cond.fieldLink RX13 698 "TongueHouseModel" "version" "I" ∈ lw_tbl := pk_t10 _ (List.mem_of_getElem? (i := 31) rfl)
set_option maxRecDepth 100000 in
theorem gw2223 : Cond.fieldLink RX13 701 "TongueHouseModel" "firstAt" "I" ∈ lw_tbl := pk_t10 _ (List.mem_of_getElem? (i := 9) rfl)
set_option maxRecDepth 100000 in
theorem gw2224 : Cond.fieldLink RX13 730 "TongueHouseModel" "price" "I" ∈ lw_tbl := pk_t10 _ (List.mem_of_getElem? (i := 32) rfl)
set_option maxRecDepth 100000 in
theorem gw2225 : Cond.fieldLink RX13 755 "TongueHouseModel" "what" "I" ∈ lw_tbl := pk_t10 _ (List.mem_of_getElem? (i := 35) rfl)
set_option maxRecDepth 100000 in
theorem gw2226 : Cond.fieldLink RX13 766 "TongueHouseModel" "packed" "I" ∈ lw_tbl := pk_t10 _ (List.mem_of_getElem? (i := 37) rfl)
set_option maxRecDepth 100000 in
theorem gw2227 : Cond.fieldLink RX13 775 "TongueHouseModel" "nItems" "I" ∈ lw_tbl := pk_t10 _ (List.mem_of_getElem? (i := 49) rfl)
set_option maxRecDepth 100000 in
theorem gw2228 : Cond.fieldLink RX13 778 "TongueHouseModel" "nSaid" "I" ∈ lw_tbl := pk_t10 _ (List.mem_of_getElem? (i := 50) rfl)
set_option maxRecDepth 100000 in
theorem gw2229 : Cond.fieldLink RX13 786 "TongueHouseModel" "argument" "I" ∈ lw_tbl := pk_t10 _ (List.mem_of_getElem? (i := 51) rfl)
set_option maxRecDepth 100000 in
theorem gw2230 : Cond.fieldLink RX13 795 "TongueHouseModel" "binders" "I" ∈ lw_tbl := pk_t10 _ (List.mem_of_getElem? (i := 53) rfl)
set_option maxRecDepth 100000 in
theorem gw2231 : Cond.fieldLink RX13 798 "TongueHouseModel" "termFun" "I" ∈ lw_tbl := pk_t10 _ (List.mem_of_getElem? (i := 54) rfl)
set_option maxRecDepth 100000 in
theorem gw2232 : Cond.fieldLink RX13 818 "TongueHouseModel" "bufN" "I" ∈ lw_tbl := pk_t10 _ (List.mem_of_getElem? (i := 57) rfl)
set_option maxRecDepth 100000 in
theorem gw2233 : Cond.fieldLink RX13 854 "TongueHouseModel" "foundN" "I" ∈ lw_tbl := pk_t10 _ (List.mem_of_getElem? (i := 63) rfl)
set_option maxRecDepth 100000 in
theorem gw2234 : Cond.fieldLink RX13 860 "TongueHouseModel" "foundT" "I" ∈ lw_tbl := pk_t10 _ (List.mem_of_getElem? (i := 64) rfl)
set_option maxRecDepth 100000 in
theorem gw2235 : Cond.fieldLink RX13 870 "TongueHouseModel" "guesses" "I" ∈ lw_tbl := pk_t10 _ (List.mem_of_getElem? (i := 67) rfl)
set_option maxRecDepth 100000 in
theorem gw2236 : Cond.fieldLink RX13 878 "TongueHouseModel" "guessAll" "I" ∈ lw_tbl := pk_t10 _ (List.mem_of_getElem? (i := 68) rfl)
set_option maxRecDepth 100000 in
theorem gw2237 : Cond.fieldLink RX13 881 "TongueHouseModel" "guessLong" "I" ∈ lw_tbl := pk_t10 _ (List.mem_of_getElem? (i := 69) rfl)
set_option maxRecDepth 100000 in
theorem gw2238 : Cond.fieldLink RX13 887 "TongueHouseModel" "n" "I" ∈ lw_tbl := pk_t10 _ (List.mem_of_getElem? (i := 74) rfl)
set_option maxRecDepth 100000 in
theorem gw2239 : Cond.fieldLink RX13 893 "TongueHouseModel" "nodes" "I" ∈ lw_tbl := pk_t10 _ (List.mem_of_getElem? (i := 88) rfl)
set_option maxRecDepth 100000 in
theorem gw2240 : Cond.fieldLink RX13 896 "TongueHouseModel" "tooMany" "Z" ∈ lw_tbl := pk_t10 _ (List.mem_of_getElem? (i := 91) rfl)
set_option maxRecDepth 100000 in
theorem gw2241 : Cond.fieldLink RX13 900 "TongueHouseModel" "ways" "I" ∈ lw_tbl := pk_t10 _ (List.mem_of_getElem? (i := 89) rfl)
set_option maxRecDepth 100000 in
theorem gw2242 : Cond.fieldLink RX13 903 "TongueHouseModel" "pt" "I" ∈ lw_tbl := pk_t10 _ (List.mem_of_getElem? (i := 97) rfl)
set_option maxRecDepth 100000 in
theorem gw2243 : Cond.fieldLink RX13 906 "TongueHouseModel" "tries" "I" ∈ lw_tbl := pk_t10 _ (List.mem_of_getElem? (i := 92) rfl)
set_option maxRecDepth 100000 in
theorem gw2244 : Cond.fieldLink RX13 914 "TongueHouseModel" "pLin" "I" ∈ lw_tbl := pk_t10 _ (List.mem_of_getElem? (i := 98) rfl)
set_option maxRecDepth 100000 in
theorem gw2245 : Cond.fieldLink RX13 917 "TongueHouseModel" "pFrom" "I" ∈ lw_tbl := pk_t10 _ (List.mem_of_getElem? (i := 99) rfl)
set_option maxRecDepth 100000 in
theorem gw2246 : Cond.fieldLink RX13 920 "TongueHouseModel" "pTo" "I" ∈ lw_tbl := pk_t10 _ (List.mem_of_getElem? (i := 100) rfl)
set_option maxRecDepth 100000 in
theorem gw2247 : Cond.fieldLink RX13 923 "TongueHouseModel" "pNumber" "I" ∈ lw_tbl := pk_t10 _ (List.mem_of_getElem? (i := 101) rfl)
set_option maxRecDepth 100000 in
theorem gw2248 : Cond.fieldLink RX13 960 "TongueHouseModel" "forestTongue" "I" ∈ lw_tbl := pk_t10 _ (List.mem_of_getElem? (i := 90) rfl)
set_option maxRecDepth 100000 in
theorem gw2249 : Cond.fieldLink RX13 977 "TongueHouseModel" "readings" "I" ∈ lw_tbl := pk_t10 _ (List.mem_of_getElem? (i := 115) rfl)
set_option maxRecDepth 100000 in
theorem gw2250 : Cond.fieldLink RX13 984 "TongueHouseModel" "all" "J" ∈ lw_tbl := pk_t10 _ (List.mem_of_getElem? (i := 111) rfl)
set_option maxRecDepth 100000 in
theorem gw2251 : Cond.fieldLink RX13 989 "TongueHouseModel" "noted" "I" ∈ lw_tbl := pk_t10 _ (List.mem_of_getElem? (i := 109) rfl)
set_option maxRecDepth 100000 in
theorem gw2252 : Cond.fieldLink RX13 992 "TongueHouseModel" "notedWays" "I" ∈ lw_tbl := pk_t10 _ (List.mem_of_getElem? (i := 110) rfl)
set_option maxRecDepth 100000 in
theorem gw2253 : Cond.fieldLink RX13 1011 "TongueHouseModel" "treeN" "I" ∈ lw_tbl := pk_t10 _ (List.mem_of_getElem? (i := 117) rfl)
set_option maxRecDepth 100000 in
theorem gw2254 : Cond.fieldLink RX13 1046 "TongueHouseModel" "candidates" "I" ∈ lw_tbl := pk_t10 _ (List.mem_of_getElem? (i := 130) rfl)
set_option maxRecDepth 100000 in
theorem gw2255 : Cond.fieldLink RX13 1049 "TongueHouseModel" "collected" "I" ∈ lw_tbl := pk_t10 _ (List.mem_of_getElem? (i := 135) rfl)
set_option maxRecDepth 100000 in
theorem gw2256 : Cond.fieldLink RX13 1052 "TongueHouseModel" "hits" "I" ∈ lw_tbl := pk_t10 _ (List.mem_of_getElem? (i := 140) rfl)
set_option maxRecDepth 100000 in
theorem gw2257 : Cond.fieldLink RX13 1070 "TongueHouseModel" "hp" "I" ∈ lw_tbl := pk_t10 _ (List.mem_of_getElem? (i := 145) rfl)
set_option maxRecDepth 100000 in
theorem gw2258 : Cond.fieldLink RX13 1073 "TongueHouseModel" "hEnd" "I" ∈ lw_tbl := pk_t10 _ (List.mem_of_getElem? (i := 146) rfl)
set_option maxRecDepth 100000 in
theorem gw2259 : Cond.fieldLink RX13 1076 "TongueHouseModel" "large" "Z" ∈ lw_tbl := pk_t10 _ (List.mem_of_getElem? (i := 147) rfl)
set_option maxRecDepth 100000 in
theorem gw2260 : Cond.fieldLink RX13 1112 "TongueHouseModel" "bounds" "I" ∈ lw_tbl := pk_t10 _ (List.mem_of_getElem? (i := 149) rfl)
set_option maxRecDepth 100000 in
theorem gw2261 : Cond.fieldLink RX13 1115 "TongueHouseModel" "looks" "I" ∈ lw_tbl := pk_t10 _ (List.mem_of_getElem? (i := 150) rfl)
set_option maxRecDepth 100000 in
theorem gw2262 : Cond.constantLong RX13 592 255 ∈ lw_tbl := pk_t14 _ (List.mem_of_getElem? (i := 142) rfl)
set_option maxRecDepth 100000 in
theorem gw2263 : Cond.constant RX13 758 (Int32.ofInt (-2147483648)) ∈ lw_tbl := pk_t13 _ (List.mem_of_getElem? (i := 72) rfl)
set_option maxRecDepth 100000 in
theorem gw2264 : Cond.constant RX13 762 (Int32.ofInt 2147483647) ∈ lw_tbl := pk_t13 _ (List.mem_of_getElem? (i := 73) rfl)
set_option maxRecDepth 100000 in
theorem gw2265 : Cond.constant RX13 909 (Int32.ofInt 400000) ∈ lw_tbl := pk_t14 _ (List.mem_of_getElem? (i := 27) rfl)
set_option maxRecDepth 100000 in
theorem gw2266 : Cond.constantLong RX13 955 1000000000000000000 ∈ lw_tbl := pk_t14 _ (List.mem_of_getElem? (i := 77) rfl)
