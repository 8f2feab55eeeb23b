theorem zw35 : Cond.methodLink "TemplateHouse" 3 ⟨"java/lang/Object", "<init>", "()V"⟩ ∈ zT := zsub1 35 (by decide +kernel) (by decide +kernel)
theorem zw708 : Cond.fieldLink "TemplateHouse" 9 "TemplateHouse" "ready" "[B" ∈ zT := zsub3 228 (by decide +kernel) (by decide +kernel)
theorem zw709 : Cond.fieldLink "TemplateHouse" 13 "TemplateHouse" "tape" "[B" ∈ zT := zsub3 229 (by decide +kernel) (by decide +kernel)
theorem zw710 : Cond.fieldLink "TemplateHouse" 16 "TemplateHouse" "taped" "I" ∈ zT := zsub3 230 (by decide +kernel) (by decide +kernel)
theorem zw720 : Cond.fieldLink "TemplateHouse" 20 "TemplateHouse" "generations" "I" ∈ zT := zsub4 0 (by decide +kernel) (by decide +kernel)
theorem zw721 : Cond.fieldLink "TemplateHouse" 23 "TemplateHouse" "faultNumber" "I" ∈ zT := zsub4 1 (by decide +kernel) (by decide +kernel)
theorem zw722 : Cond.fieldLink "TemplateHouse" 26 "TemplateHouse" "faultFile" "I" ∈ zT := zsub4 2 (by decide +kernel) (by decide +kernel)
theorem zw723 : Cond.fieldLink "TemplateHouse" 29 "TemplateHouse" "faultPlace" "I" ∈ zT := zsub4 3 (by decide +kernel) (by decide +kernel)
theorem zw724 : Cond.fieldLink "TemplateHouse" 32 "TemplateHouse" "wide" "I" ∈ zT := zsub4 4 (by decide +kernel) (by decide +kernel)
theorem zw725 : Cond.fieldLink "TemplateHouse" 35 "TemplateHouse" "state" "I" ∈ zT := zsub4 5 (by decide +kernel) (by decide +kernel)
theorem zw726 : Cond.fieldLink "TemplateHouse" 38 "TemplateHouse" "shown" "I" ∈ zT := zsub4 6 (by decide +kernel) (by decide +kernel)
theorem zw38 : Cond.classLink "TemplateHouse" 41 "[[B" ∈ zT := zsub1 38 (by decide +kernel) (by decide +kernel)
theorem zw40 : Cond.classLink "TemplateHouse" 43 "TemplateHouse$Store" ∈ zT := zsub1 40 (by decide +kernel) (by decide +kernel)
theorem zw41 : Cond.instantiable "TemplateHouse$Store" 14 ∈ zT := zsub1 41 (by decide +kernel) (by decide +kernel)
theorem zw2 : Cond.initialized "TemplateHouse$Store" ∈ zT := zsub1 2 (by decide +kernel) (by decide +kernel)
theorem zw45 : Cond.methodLink "TemplateHouse$Store" 3 ⟨"java/lang/Object", "<init>", "()V"⟩ ∈ zT := zsub1 45 (by decide +kernel) (by decide +kernel)
theorem zw47 : Cond.fieldLink "TemplateHouse$Store" 9 "TemplateHouse$Store" "sort" "[I" ∈ zT := zsub1 47 (by decide +kernel) (by decide +kernel)
theorem zw49 : Cond.fieldLink "TemplateHouse$Store" 15 "TemplateHouse$Store" "much" "[J" ∈ zT := zsub1 49 (by decide +kernel) (by decide +kernel)
theorem zw51 : Cond.fieldLink "TemplateHouse$Store" 19 "TemplateHouse$Store" "from" "[I" ∈ zT := zsub1 51 (by decide +kernel) (by decide +kernel)
theorem zw53 : Cond.fieldLink "TemplateHouse$Store" 22 "TemplateHouse$Store" "length" "[I" ∈ zT := zsub1 53 (by decide +kernel) (by decide +kernel)
theorem zw55 : Cond.fieldLink "TemplateHouse$Store" 25 "TemplateHouse$Store" "size" "[I" ∈ zT := zsub1 55 (by decide +kernel) (by decide +kernel)
theorem zw46 : Cond.constant "TemplateHouse$Store" 28 (50000 : Int32) ∈ zT := zsub1 46 (by decide +kernel) (by decide +kernel)
theorem zw57 : Cond.fieldLink "TemplateHouse$Store" 29 "TemplateHouse$Store" "cells" "[I" ∈ zT := zsub1 57 (by decide +kernel) (by decide +kernel)
theorem zw60 : Cond.fieldLink "TemplateHouse$Store" 32 "TemplateHouse$Store" "bytes" "[B" ∈ zT := zsub1 60 (by decide +kernel) (by decide +kernel)
theorem zw62 : Cond.fieldLink "TemplateHouse$Store" 36 "TemplateHouse$Store" "count" "I" ∈ zT := zsub1 62 (by decide +kernel) (by decide +kernel)
theorem zw65 : Cond.fieldLink "TemplateHouse$Store" 40 "TemplateHouse$Store" "used" "I" ∈ zT := zsub1 65 (by decide +kernel) (by decide +kernel)
theorem zw67 : Cond.fieldLink "TemplateHouse$Store" 43 "TemplateHouse$Store" "listed" "I" ∈ zT := zsub1 67 (by decide +kernel) (by decide +kernel)
theorem zw68 : Cond.fieldLink "TemplateHouse$Store" 46 "TemplateHouse$Store" "addedNames" "[B" ∈ zT := zsub1 68 (by decide +kernel) (by decide +kernel)
theorem zw70 : Cond.fieldLink "TemplateHouse$Store" 49 "TemplateHouse$Store" "addedLengths" "[I" ∈ zT := zsub1 70 (by decide +kernel) (by decide +kernel)
theorem zw72 : Cond.fieldLink "TemplateHouse$Store" 52 "TemplateHouse$Store" "addedValues" "[I" ∈ zT := zsub1 72 (by decide +kernel) (by decide +kernel)
theorem zw74 : Cond.fieldLink "TemplateHouse$Store" 55 "TemplateHouse$Store" "addedCount" "I" ∈ zT := zsub1 74 (by decide +kernel) (by decide +kernel)
theorem zw42 : Cond.methodLinkNest "TemplateHouse" 45 ⟨"TemplateHouse$Store", "<init>", "()V"⟩ "TemplateHouse" ∈ zNest := zsubN1 42 (by decide +kernel) (by decide +kernel)
theorem zw109 : Cond.classLink "TemplateHouse" 46 "TemplateHouse$Source" ∈ zT := zsub1 109 (by decide +kernel) (by decide +kernel)
theorem zw110 : Cond.instantiable "TemplateHouse$Source" 12 ∈ zT := zsub1 110 (by decide +kernel) (by decide +kernel)
theorem zw3 : Cond.initialized "TemplateHouse$Source" ∈ zT := zsub1 3 (by decide +kernel) (by decide +kernel)
theorem zw114 : Cond.methodLink "TemplateHouse$Source" 3 ⟨"java/lang/Object", "<init>", "()V"⟩ ∈ zT := zsub1 114 (by decide +kernel) (by decide +kernel)
theorem zw115 : Cond.fieldLink "TemplateHouse$Source" 9 "TemplateHouse$Source" "src" "[B" ∈ zT := zsub1 115 (by decide +kernel) (by decide +kernel)
theorem zw116 : Cond.fieldLink "TemplateHouse$Source" 15 "TemplateHouse$Source" "isFile" "Z" ∈ zT := zsub1 116 (by decide +kernel) (by decide +kernel)
theorem zw117 : Cond.fieldLink "TemplateHouse$Source" 19 "TemplateHouse$Source" "packed" "[B" ∈ zT := zsub1 117 (by decide +kernel) (by decide +kernel)
theorem zw118 : Cond.fieldLink "TemplateHouse$Source" 22 "TemplateHouse$Source" "places" "[I" ∈ zT := zsub1 118 (by decide +kernel) (by decide +kernel)
theorem zw119 : Cond.fieldLink "TemplateHouse$Source" 26 "TemplateHouse$Source" "lim" "I" ∈ zT := zsub1 119 (by decide +kernel) (by decide +kernel)
theorem zw122 : Cond.fieldLink "TemplateHouse$Source" 30 "TemplateHouse$Source" "pos" "I" ∈ zT := zsub1 122 (by decide +kernel) (by decide +kernel)
theorem zw125 : Cond.fieldLink "TemplateHouse$Source" 33 "TemplateHouse$Source" "file" "I" ∈ zT := zsub1 125 (by decide +kernel) (by decide +kernel)
theorem zw130 : Cond.fieldLink "TemplateHouse$Source" 36 "TemplateHouse$Source" "number" "I" ∈ zT := zsub1 130 (by decide +kernel) (by decide +kernel)
theorem zw132 : Cond.fieldLink "TemplateHouse$Source" 39 "TemplateHouse$Source" "where" "I" ∈ zT := zsub1 132 (by decide +kernel) (by decide +kernel)
theorem zw134 : Cond.fieldLink "TemplateHouse$Source" 42 "TemplateHouse$Source" "whole" "[B" ∈ zT := zsub1 134 (by decide +kernel) (by decide +kernel)
theorem zw135 : Cond.fieldLink "TemplateHouse$Source" 45 "TemplateHouse$Source" "wholeLim" "I" ∈ zT := zsub1 135 (by decide +kernel) (by decide +kernel)
theorem zw136 : Cond.fieldLink "TemplateHouse$Source" 48 "TemplateHouse$Source" "after" "I" ∈ zT := zsub1 136 (by decide +kernel) (by decide +kernel)
theorem zw111 : Cond.methodLinkNest "TemplateHouse" 48 ⟨"TemplateHouse$Source", "<init>", "()V"⟩ "TemplateHouse" ∈ zNest := zsubN1 111 (by decide +kernel) (by decide +kernel)
theorem zw162 : Cond.classLink "TemplateHouse" 49 "TemplateHouse$Gen" ∈ zT := zsub1 162 (by decide +kernel) (by decide +kernel)
theorem zw163 : Cond.instantiable "TemplateHouse$Gen" 17 ∈ zT := zsub1 163 (by decide +kernel) (by decide +kernel)
theorem zw4 : Cond.initialized "TemplateHouse$Gen" ∈ zT := zsub1 4 (by decide +kernel) (by decide +kernel)
theorem zw167 : Cond.methodLink "TemplateHouse$Gen" 3 ⟨"java/lang/Object", "<init>", "()V"⟩ ∈ zT := zsub1 167 (by decide +kernel) (by decide +kernel)
theorem zw168 : Cond.classLink "TemplateHouse$Gen" 9 "TemplateHouse$Names" ∈ zT := zsub1 168 (by decide +kernel) (by decide +kernel)
theorem zw169 : Cond.instantiable "TemplateHouse$Names" 6 ∈ zT := zsub1 169 (by decide +kernel) (by decide +kernel)
theorem zw5 : Cond.initialized "TemplateHouse$Names" ∈ zT := zsub1 5 (by decide +kernel) (by decide +kernel)
theorem zw173 : Cond.methodLink "TemplateHouse$Names" 3 ⟨"java/lang/Object", "<init>", "()V"⟩ ∈ zT := zsub1 173 (by decide +kernel) (by decide +kernel)
theorem zw174 : Cond.fieldLink "TemplateHouse$Names" 9 "TemplateHouse$Names" "bytes" "[B" ∈ zT := zsub1 174 (by decide +kernel) (by decide +kernel)
theorem zw178 : Cond.fieldLink "TemplateHouse$Names" 15 "TemplateHouse$Names" "from" "[I" ∈ zT := zsub1 178 (by decide +kernel) (by decide +kernel)
theorem zw182 : Cond.fieldLink "TemplateHouse$Names" 19 "TemplateHouse$Names" "next" "[I" ∈ zT := zsub1 182 (by decide +kernel) (by decide +kernel)
theorem zw183 : Cond.fieldLink "TemplateHouse$Names" 22 "TemplateHouse$Names" "head" "[I" ∈ zT := zsub1 183 (by decide +kernel) (by decide +kernel)
theorem zw184 : Cond.fieldLink "TemplateHouse$Names" 25 "TemplateHouse$Names" "count" "I" ∈ zT := zsub1 184 (by decide +kernel) (by decide +kernel)
theorem zw186 : Cond.fieldLink "TemplateHouse$Names" 29 "TemplateHouse$Names" "used" "I" ∈ zT := zsub1 186 (by decide +kernel) (by decide +kernel)
theorem zw170 : Cond.methodLinkNest "TemplateHouse$Gen" 11 ⟨"TemplateHouse$Names", "<init>", "()V"⟩ "TemplateHouse" ∈ zNest := zsubN1 170 (by decide +kernel) (by decide +kernel)
theorem zw230 : Cond.fieldLink "TemplateHouse$Gen" 12 "TemplateHouse$Gen" "names" "LTemplateHouse$Names;" ∈ zT := zsub1 230 (by decide +kernel) (by decide +kernel)
theorem zw200 : Cond.classLink "TemplateHouse$Gen" 18 "TemplateHouse$Imports" ∈ zT := zsub1 200 (by decide +kernel) (by decide +kernel)
theorem zw201 : Cond.instantiable "TemplateHouse$Imports" 6 ∈ zT := zsub1 201 (by decide +kernel) (by decide +kernel)
theorem zw6 : Cond.initialized "TemplateHouse$Imports" ∈ zT := zsub1 6 (by decide +kernel) (by decide +kernel)
theorem zw205 : Cond.methodLink "TemplateHouse$Imports" 1 ⟨"java/lang/Object", "<init>", "()V"⟩ ∈ zT := zsub1 205 (by decide +kernel) (by decide +kernel)
theorem zw206 : Cond.fieldLink "TemplateHouse$Imports" 7 "TemplateHouse$Imports" "direct" "[I" ∈ zT := zsub1 206 (by decide +kernel) (by decide +kernel)
theorem zw208 : Cond.fieldLink "TemplateHouse$Imports" 13 "TemplateHouse$Imports" "directs" "[I" ∈ zT := zsub1 208 (by decide +kernel) (by decide +kernel)
theorem zw210 : Cond.fieldLink "TemplateHouse$Imports" 16 "TemplateHouse$Imports" "ways" "[I" ∈ zT := zsub1 210 (by decide +kernel) (by decide +kernel)
theorem zw211 : Cond.fieldLink "TemplateHouse$Imports" 19 "TemplateHouse$Imports" "wayLengths" "[I" ∈ zT := zsub1 211 (by decide +kernel) (by decide +kernel)
theorem zw212 : Cond.fieldLink "TemplateHouse$Imports" 22 "TemplateHouse$Imports" "read" "[I" ∈ zT := zsub1 212 (by decide +kernel) (by decide +kernel)
theorem zw214 : Cond.fieldLink "TemplateHouse$Imports" 25 "TemplateHouse$Imports" "reads" "I" ∈ zT := zsub1 214 (by decide +kernel) (by decide +kernel)
theorem zw202 : Cond.methodLinkNest "TemplateHouse$Gen" 20 ⟨"TemplateHouse$Imports", "<init>", "()V"⟩ "TemplateHouse" ∈ zNest := zsubN1 202 (by decide +kernel) (by decide +kernel)
theorem zw236 : Cond.fieldLink "TemplateHouse$Gen" 21 "TemplateHouse$Gen" "imports" "LTemplateHouse$Imports;" ∈ zT := zsub1 236 (by decide +kernel) (by decide +kernel)
theorem zw229 : Cond.constant "TemplateHouse$Gen" 25 (192000 : Int32) ∈ zT := zsub1 229 (by decide +kernel) (by decide +kernel)
theorem zw239 : Cond.fieldLink "TemplateHouse$Gen" 26 "TemplateHouse$Gen" "code" "[I" ∈ zT := zsub1 239 (by decide +kernel) (by decide +kernel)
theorem zw244 : Cond.fieldLink "TemplateHouse$Gen" 30 "TemplateHouse$Gen" "codeEnd" "I" ∈ zT := zsub2 4 (by decide +kernel) (by decide +kernel)
theorem zw247 : Cond.fieldLink "TemplateHouse$Gen" 34 "TemplateHouse$Gen" "pool" "[B" ∈ zT := zsub2 7 (by decide +kernel) (by decide +kernel)
theorem zw251 : Cond.fieldLink "TemplateHouse$Gen" 38 "TemplateHouse$Gen" "places" "[I" ∈ zT := zsub2 11 (by decide +kernel) (by decide +kernel)
theorem zw253 : Cond.fieldLink "TemplateHouse$Gen" 41 "TemplateHouse$Gen" "poolEnd" "I" ∈ zT := zsub2 13 (by decide +kernel) (by decide +kernel)
theorem zw256 : Cond.fieldLink "TemplateHouse$Gen" 44 "TemplateHouse$Gen" "defs" "[I" ∈ zT := zsub2 16 (by decide +kernel) (by decide +kernel)
theorem zw259 : Cond.fieldLink "TemplateHouse$Gen" 47 "TemplateHouse$Gen" "defCount" "I" ∈ zT := zsub2 19 (by decide +kernel) (by decide +kernel)
theorem zw262 : Cond.fieldLink "TemplateHouse$Gen" 50 "TemplateHouse$Gen" "parts" "[I" ∈ zT := zsub2 22 (by decide +kernel) (by decide +kernel)
theorem zw265 : Cond.fieldLink "TemplateHouse$Gen" 53 "TemplateHouse$Gen" "partCount" "I" ∈ zT := zsub2 25 (by decide +kernel) (by decide +kernel)
theorem zw268 : Cond.fieldLink "TemplateHouse$Gen" 56 "TemplateHouse$Gen" "calls" "[I" ∈ zT := zsub2 28 (by decide +kernel) (by decide +kernel)
theorem zw270 : Cond.fieldLink "TemplateHouse$Gen" 59 "TemplateHouse$Gen" "callCount" "I" ∈ zT := zsub2 30 (by decide +kernel) (by decide +kernel)
theorem zw272 : Cond.fieldLink "TemplateHouse$Gen" 62 "TemplateHouse$Gen" "late" "[I" ∈ zT := zsub2 32 (by decide +kernel) (by decide +kernel)
theorem zw274 : Cond.fieldLink "TemplateHouse$Gen" 65 "TemplateHouse$Gen" "template" "[I" ∈ zT := zsub2 34 (by decide +kernel) (by decide +kernel)
theorem zw276 : Cond.fieldLink "TemplateHouse$Gen" 68 "TemplateHouse$Gen" "dictionary" "[I" ∈ zT := zsub2 36 (by decide +kernel) (by decide +kernel)
theorem zw279 : Cond.fieldLink "TemplateHouse$Gen" 71 "TemplateHouse$Gen" "templates" "I" ∈ zT := zsub2 39 (by decide +kernel) (by decide +kernel)
theorem zw164 : Cond.methodLinkNest "TemplateHouse" 51 ⟨"TemplateHouse$Gen", "<init>", "()V"⟩ "TemplateHouse" ∈ zNest := zsubN1 164 (by decide +kernel) (by decide +kernel)
theorem zw711 : Cond.fieldLink "TemplateHouse" 52 "TemplateHouse" "files" "[[B" ∈ zT := zsub3 231 (by decide +kernel) (by decide +kernel)
theorem zw712 : Cond.fieldLink "TemplateHouse" 55 "TemplateHouse" "sizes" "[I" ∈ zT := zsub3 232 (by decide +kernel) (by decide +kernel)
theorem zw713 : Cond.fieldLink "TemplateHouse" 59 "TemplateHouse" "store" "LTemplateHouse$Store;" ∈ zT := zsub3 233 (by decide +kernel) (by decide +kernel)
theorem zw714 : Cond.fieldLink "TemplateHouse" 63 "TemplateHouse" "source" "LTemplateHouse$Source;" ∈ zT := zsub3 234 (by decide +kernel) (by decide +kernel)
theorem zw715 : Cond.fieldLink "TemplateHouse" 67 "TemplateHouse" "now" "LTemplateHouse$Gen;" ∈ zT := zsub3 235 (by decide +kernel) (by decide +kernel)
theorem zw716 : Cond.fieldLink "TemplateHouse" 71 "TemplateHouse" "spare" "LTemplateHouse$Gen;" ∈ zT := zsub3 236 (by decide +kernel) (by decide +kernel)
theorem zw317 : Cond.classLink "TemplateHouse" 74 "TemplateHouse$FileReader" ∈ zT := zsub2 77 (by decide +kernel) (by decide +kernel)
theorem zw318 : Cond.instantiable "TemplateHouse$FileReader" 19 ∈ zT := zsub2 78 (by decide +kernel) (by decide +kernel)
theorem zw7 : Cond.initialized "TemplateHouse$FileReader" ∈ zT := zsub1 7 (by decide +kernel) (by decide +kernel)
theorem zw322 : Cond.methodLink "TemplateHouse$FileReader" 3 ⟨"java/lang/Object", "<init>", "()V"⟩ ∈ zT := zsub2 82 (by decide +kernel) (by decide +kernel)
theorem zw389 : Cond.fieldLink "TemplateHouse$FileReader" 9 "TemplateHouse$FileReader" "names" "[I" ∈ zT := zsub2 149 (by decide +kernel) (by decide +kernel)
theorem zw390 : Cond.fieldLink "TemplateHouse$FileReader" 15 "TemplateHouse$FileReader" "defaults" "[I" ∈ zT := zsub2 150 (by decide +kernel) (by decide +kernel)
theorem zw391 : Cond.fieldLink "TemplateHouse$FileReader" 18 "TemplateHouse$FileReader" "params" "I" ∈ zT := zsub2 151 (by decide +kernel) (by decide +kernel)
theorem zw392 : Cond.fieldLink "TemplateHouse$FileReader" 22 "TemplateHouse$FileReader" "keys" "[I" ∈ zT := zsub2 152 (by decide +kernel) (by decide +kernel)
theorem zw393 : Cond.fieldLink "TemplateHouse$FileReader" 25 "TemplateHouse$FileReader" "contents" "[I" ∈ zT := zsub2 153 (by decide +kernel) (by decide +kernel)
theorem zw394 : Cond.fieldLink "TemplateHouse$FileReader" 28 "TemplateHouse$FileReader" "entries" "I" ∈ zT := zsub2 154 (by decide +kernel) (by decide +kernel)
theorem zw323 : Cond.constant "TemplateHouse$FileReader" 31 (1476395008 : Int32) ∈ zT := zsub2 83 (by decide +kernel) (by decide +kernel)
theorem zw395 : Cond.fieldLink "TemplateHouse$FileReader" 32 "TemplateHouse$FileReader" "otherwise" "I" ∈ zT := zsub2 155 (by decide +kernel) (by decide +kernel)
theorem zw396 : Cond.fieldLink "TemplateHouse$FileReader" 35 "TemplateHouse$FileReader" "way" "[I" ∈ zT := zsub2 156 (by decide +kernel) (by decide +kernel)
theorem zw397 : Cond.fieldLink "TemplateHouse$FileReader" 38 "TemplateHouse$FileReader" "step" "[I" ∈ zT := zsub2 157 (by decide +kernel) (by decide +kernel)
theorem zw398 : Cond.fieldLink "TemplateHouse$FileReader" 41 "TemplateHouse$FileReader" "deep" "I" ∈ zT := zsub2 158 (by decide +kernel) (by decide +kernel)
theorem zw399 : Cond.fieldLink "TemplateHouse$FileReader" 44 "TemplateHouse$FileReader" "firstDef" "I" ∈ zT := zsub2 159 (by decide +kernel) (by decide +kernel)
theorem zw400 : Cond.fieldLink "TemplateHouse$FileReader" 47 "TemplateHouse$FileReader" "def" "I" ∈ zT := zsub2 160 (by decide +kernel) (by decide +kernel)
theorem zw401 : Cond.fieldLink "TemplateHouse$FileReader" 50 "TemplateHouse$FileReader" "ahead" "I" ∈ zT := zsub2 161 (by decide +kernel) (by decide +kernel)
theorem zw402 : Cond.fieldLink "TemplateHouse$FileReader" 53 "TemplateHouse$FileReader" "hasBody" "Z" ∈ zT := zsub2 162 (by decide +kernel) (by decide +kernel)
theorem zw387 : Cond.fieldLink "TemplateHouse$FileReader" 57 "TemplateHouse$FileReader" "g" "LTemplateHouse$Gen;" ∈ zT := zsub2 147 (by decide +kernel) (by decide +kernel)
theorem zw384 : Cond.fieldLink "TemplateHouse$FileReader" 61 "TemplateHouse$FileReader" "files" "[[B" ∈ zT := zsub2 144 (by decide +kernel) (by decide +kernel)
theorem zw385 : Cond.fieldLink "TemplateHouse$FileReader" 65 "TemplateHouse$FileReader" "sizes" "[I" ∈ zT := zsub2 145 (by decide +kernel) (by decide +kernel)
theorem zw386 : Cond.fieldLink "TemplateHouse$FileReader" 68 "TemplateHouse$FileReader" "s" "LTemplateHouse$Source;" ∈ zT := zsub2 146 (by decide +kernel) (by decide +kernel)
theorem zw324 : Cond.classLink "TemplateHouse$FileReader" 72 "TemplateHouse$TextReader" ∈ zT := zsub2 84 (by decide +kernel) (by decide +kernel)
theorem zw325 : Cond.instantiable "TemplateHouse$TextReader" 17 ∈ zT := zsub2 85 (by decide +kernel) (by decide +kernel)
theorem zw8 : Cond.initialized "TemplateHouse$TextReader" ∈ zT := zsub1 8 (by decide +kernel) (by decide +kernel)
theorem zw329 : Cond.methodLink "TemplateHouse$TextReader" 3 ⟨"java/lang/Object", "<init>", "()V"⟩ ∈ zT := zsub2 89 (by decide +kernel) (by decide +kernel)
theorem zw332 : Cond.fieldLink "TemplateHouse$TextReader" 9 "TemplateHouse$TextReader" "open" "I" ∈ zT := zsub2 92 (by decide +kernel) (by decide +kernel)
theorem zw334 : Cond.fieldLink "TemplateHouse$TextReader" 15 "TemplateHouse$TextReader" "close" "I" ∈ zT := zsub2 94 (by decide +kernel) (by decide +kernel)
theorem zw336 : Cond.fieldLink "TemplateHouse$TextReader" 18 "TemplateHouse$TextReader" "kind" "I" ∈ zT := zsub2 96 (by decide +kernel) (by decide +kernel)
theorem zw337 : Cond.fieldLink "TemplateHouse$TextReader" 21 "TemplateHouse$TextReader" "owner" "I" ∈ zT := zsub2 97 (by decide +kernel) (by decide +kernel)
theorem zw338 : Cond.fieldLink "TemplateHouse$TextReader" 24 "TemplateHouse$TextReader" "filled" "I" ∈ zT := zsub2 98 (by decide +kernel) (by decide +kernel)
theorem zw339 : Cond.fieldLink "TemplateHouse$TextReader" 27 "TemplateHouse$TextReader" "firstPart" "I" ∈ zT := zsub2 99 (by decide +kernel) (by decide +kernel)
theorem zw340 : Cond.fieldLink "TemplateHouse$TextReader" 30 "TemplateHouse$TextReader" "inSub" "Z" ∈ zT := zsub2 100 (by decide +kernel) (by decide +kernel)
theorem zw341 : Cond.fieldLink "TemplateHouse$TextReader" 34 "TemplateHouse$TextReader" "runFrom" "I" ∈ zT := zsub2 101 (by decide +kernel) (by decide +kernel)
theorem zw342 : Cond.fieldLink "TemplateHouse$TextReader" 37 "TemplateHouse$TextReader" "runLength" "I" ∈ zT := zsub2 102 (by decide +kernel) (by decide +kernel)
theorem zw343 : Cond.fieldLink "TemplateHouse$TextReader" 40 "TemplateHouse$TextReader" "lineStart" "Z" ∈ zT := zsub2 103 (by decide +kernel) (by decide +kernel)
theorem zw344 : Cond.fieldLink "TemplateHouse$TextReader" 43 "TemplateHouse$TextReader" "argCount" "I" ∈ zT := zsub2 104 (by decide +kernel) (by decide +kernel)
theorem zw345 : Cond.fieldLink "TemplateHouse$TextReader" 46 "TemplateHouse$TextReader" "argFlags" "I" ∈ zT := zsub2 105 (by decide +kernel) (by decide +kernel)
theorem zw346 : Cond.fieldLink "TemplateHouse$TextReader" 49 "TemplateHouse$TextReader" "argNamed" "I" ∈ zT := zsub2 106 (by decide +kernel) (by decide +kernel)
theorem zw347 : Cond.fieldLink "TemplateHouse$TextReader" 52 "TemplateHouse$TextReader" "endAlone" "Z" ∈ zT := zsub2 107 (by decide +kernel) (by decide +kernel)
theorem zw348 : Cond.fieldLink "TemplateHouse$TextReader" 55 "TemplateHouse$TextReader" "endPatch" "I" ∈ zT := zsub2 108 (by decide +kernel) (by decide +kernel)
theorem zw330 : Cond.fieldLink "TemplateHouse$TextReader" 58 "TemplateHouse$TextReader" "s" "LTemplateHouse$Source;" ∈ zT := zsub2 90 (by decide +kernel) (by decide +kernel)
theorem zw331 : Cond.fieldLink "TemplateHouse$TextReader" 62 "TemplateHouse$TextReader" "g" "LTemplateHouse$Gen;" ∈ zT := zsub2 91 (by decide +kernel) (by decide +kernel)
theorem zw326 : Cond.methodLink "TemplateHouse$FileReader" 74 ⟨"TemplateHouse$TextReader", "<init>", "(LTemplateHouse$Source;LTemplateHouse$Gen;)V"⟩ ∈ zT := zsub2 86 (by decide +kernel) (by decide +kernel)
theorem zw388 : Cond.fieldLink "TemplateHouse$FileReader" 77 "TemplateHouse$FileReader" "t" "LTemplateHouse$TextReader;" ∈ zT := zsub2 148 (by decide +kernel) (by decide +kernel)
theorem zw319 : Cond.methodLink "TemplateHouse" 76 ⟨"TemplateHouse$FileReader", "<init>", "([[B[ILTemplateHouse$Source;LTemplateHouse$Gen;)V"⟩ ∈ zT := zsub2 79 (by decide +kernel) (by decide +kernel)
theorem zw717 : Cond.fieldLink "TemplateHouse" 79 "TemplateHouse" "reader" "LTemplateHouse$FileReader;" ∈ zT := zsub3 237 (by decide +kernel) (by decide +kernel)
theorem zw442 : Cond.classLink "TemplateHouse" 83 "TemplateHouse$Checker" ∈ zT := zsub2 202 (by decide +kernel) (by decide +kernel)
theorem zw443 : Cond.instantiable "TemplateHouse$Checker" 5 ∈ zT := zsub2 203 (by decide +kernel) (by decide +kernel)
theorem zw9 : Cond.initialized "TemplateHouse$Checker" ∈ zT := zsub1 9 (by decide +kernel) (by decide +kernel)
theorem zw447 : Cond.methodLink "TemplateHouse$Checker" 3 ⟨"java/lang/Object", "<init>", "()V"⟩ ∈ zT := zsub2 207 (by decide +kernel) (by decide +kernel)
theorem zw450 : Cond.fieldLink "TemplateHouse$Checker" 9 "TemplateHouse$Checker" "file" "I" ∈ zT := zsub2 210 (by decide +kernel) (by decide +kernel)
theorem zw451 : Cond.fieldLink "TemplateHouse$Checker" 15 "TemplateHouse$Checker" "number" "I" ∈ zT := zsub2 211 (by decide +kernel) (by decide +kernel)
theorem zw452 : Cond.fieldLink "TemplateHouse$Checker" 18 "TemplateHouse$Checker" "place" "I" ∈ zT := zsub2 212 (by decide +kernel) (by decide +kernel)
theorem zw448 : Cond.fieldLink "TemplateHouse$Checker" 21 "TemplateHouse$Checker" "s" "LTemplateHouse$Source;" ∈ zT := zsub2 208 (by decide +kernel) (by decide +kernel)
theorem zw449 : Cond.fieldLink "TemplateHouse$Checker" 25 "TemplateHouse$Checker" "g" "LTemplateHouse$Gen;" ∈ zT := zsub2 209 (by decide +kernel) (by decide +kernel)
theorem zw444 : Cond.methodLink "TemplateHouse" 85 ⟨"TemplateHouse$Checker", "<init>", "(LTemplateHouse$Source;LTemplateHouse$Gen;)V"⟩ ∈ zT := zsub2 204 (by decide +kernel) (by decide +kernel)
theorem zw718 : Cond.fieldLink "TemplateHouse" 88 "TemplateHouse" "checker" "LTemplateHouse$Checker;" ∈ zT := zsub3 238 (by decide +kernel) (by decide +kernel)
theorem zw464 : Cond.classLink "TemplateHouse" 92 "TemplateHouse$Maker" ∈ zT := zsub2 224 (by decide +kernel) (by decide +kernel)
theorem zw465 : Cond.instantiable "TemplateHouse$Maker" 21 ∈ zT := zsub2 225 (by decide +kernel) (by decide +kernel)
theorem zw10 : Cond.initialized "TemplateHouse$Maker" ∈ zT := zsub1 10 (by decide +kernel) (by decide +kernel)
theorem zw469 : Cond.methodLink "TemplateHouse$Maker" 3 ⟨"java/lang/Object", "<init>", "()V"⟩ ∈ zT := zsub2 229 (by decide +kernel) (by decide +kernel)
theorem zw470 : Cond.constant "TemplateHouse$Maker" 9 (150000 : Int32) ∈ zT := zsub2 230 (by decide +kernel) (by decide +kernel)
theorem zw646 : Cond.fieldLink "TemplateHouse$Maker" 10 "TemplateHouse$Maker" "stack" "[I" ∈ zT := zsub3 166 (by decide +kernel) (by decide +kernel)
theorem zw647 : Cond.fieldLink "TemplateHouse$Maker" 16 "TemplateHouse$Maker" "top" "I" ∈ zT := zsub3 167 (by decide +kernel) (by decide +kernel)
theorem zw471 : Cond.constant "TemplateHouse$Maker" 20 (75000 : Int32) ∈ zT := zsub2 231 (by decide +kernel) (by decide +kernel)
theorem zw648 : Cond.fieldLink "TemplateHouse$Maker" 21 "TemplateHouse$Maker" "frames" "[I" ∈ zT := zsub3 168 (by decide +kernel) (by decide +kernel)
theorem zw649 : Cond.fieldLink "TemplateHouse$Maker" 24 "TemplateHouse$Maker" "begun" "I" ∈ zT := zsub3 169 (by decide +kernel) (by decide +kernel)
theorem zw650 : Cond.fieldLink "TemplateHouse$Maker" 27 "TemplateHouse$Maker" "pc" "I" ∈ zT := zsub3 170 (by decide +kernel) (by decide +kernel)
theorem zw651 : Cond.fieldLink "TemplateHouse$Maker" 30 "TemplateHouse$Maker" "self" "I" ∈ zT := zsub3 171 (by decide +kernel) (by decide +kernel)
theorem zw652 : Cond.fieldLink "TemplateHouse$Maker" 33 "TemplateHouse$Maker" "element" "I" ∈ zT := zsub3 172 (by decide +kernel) (by decide +kernel)
theorem zw653 : Cond.fieldLink "TemplateHouse$Maker" 36 "TemplateHouse$Maker" "mark" "I" ∈ zT := zsub3 173 (by decide +kernel) (by decide +kernel)
theorem zw654 : Cond.fieldLink "TemplateHouse$Maker" 39 "TemplateHouse$Maker" "depth" "I" ∈ zT := zsub3 174 (by decide +kernel) (by decide +kernel)
theorem zw655 : Cond.fieldLink "TemplateHouse$Maker" 42 "TemplateHouse$Maker" "loop" "I" ∈ zT := zsub3 175 (by decide +kernel) (by decide +kernel)
theorem zw656 : Cond.fieldLink "TemplateHouse$Maker" 45 "TemplateHouse$Maker" "written" "I" ∈ zT := zsub3 176 (by decide +kernel) (by decide +kernel)
theorem zw657 : Cond.fieldLink "TemplateHouse$Maker" 48 "TemplateHouse$Maker" "separator" "I" ∈ zT := zsub3 177 (by decide +kernel) (by decide +kernel)
theorem zw658 : Cond.fieldLink "TemplateHouse$Maker" 51 "TemplateHouse$Maker" "ofNothing" "I" ∈ zT := zsub3 178 (by decide +kernel) (by decide +kernel)
theorem zw659 : Cond.fieldLink "TemplateHouse$Maker" 54 "TemplateHouse$Maker" "format" "I" ∈ zT := zsub3 179 (by decide +kernel) (by decide +kernel)
theorem zw660 : Cond.fieldLink "TemplateHouse$Maker" 57 "TemplateHouse$Maker" "wrap" "I" ∈ zT := zsub3 180 (by decide +kernel) (by decide +kernel)
theorem zw661 : Cond.fieldLink "TemplateHouse$Maker" 60 "TemplateHouse$Maker" "ended" "Z" ∈ zT := zsub3 181 (by decide +kernel) (by decide +kernel)
theorem zw663 : Cond.fieldLink "TemplateHouse$Maker" 64 "TemplateHouse$Maker" "atFirst" "I" ∈ zT := zsub3 183 (by decide +kernel) (by decide +kernel)
theorem zw472 : Cond.classLink "TemplateHouse$Maker" 67 "TemplateHouse$Teller" ∈ zT := zsub2 232 (by decide +kernel) (by decide +kernel)
theorem zw473 : Cond.instantiable "TemplateHouse$Teller" 3 ∈ zT := zsub2 233 (by decide +kernel) (by decide +kernel)
theorem zw11 : Cond.initialized "TemplateHouse$Teller" ∈ zT := zsub1 11 (by decide +kernel) (by decide +kernel)
theorem zw477 : Cond.methodLink "TemplateHouse$Teller" 1 ⟨"java/lang/Object", "<init>", "()V"⟩ ∈ zT := zsub2 237 (by decide +kernel) (by decide +kernel)
theorem zw478 : Cond.fieldLink "TemplateHouse$Teller" 7 "TemplateHouse$Teller" "errors" "[I" ∈ zT := zsub2 238 (by decide +kernel) (by decide +kernel)
theorem zw480 : Cond.fieldLink "TemplateHouse$Teller" 13 "TemplateHouse$Teller" "looks" "[I" ∈ zT := zsub3 0 (by decide +kernel) (by decide +kernel)
theorem zw482 : Cond.fieldLink "TemplateHouse$Teller" 16 "TemplateHouse$Teller" "counts" "[I" ∈ zT := zsub3 2 (by decide +kernel) (by decide +kernel)
theorem zw474 : Cond.methodLinkNest "TemplateHouse$Maker" 69 ⟨"TemplateHouse$Teller", "<init>", "()V"⟩ "TemplateHouse" ∈ zNest := zsubN2 234 (by decide +kernel) (by decide +kernel)
theorem zw645 : Cond.fieldLink "TemplateHouse$Maker" 70 "TemplateHouse$Maker" "g" "LTemplateHouse$Gen;" ∈ zT := zsub3 165 (by decide +kernel) (by decide +kernel)
theorem zw640 : Cond.fieldLink "TemplateHouse$Maker" 74 "TemplateHouse$Maker" "teller" "LTemplateHouse$Teller;" ∈ zT := zsub3 160 (by decide +kernel) (by decide +kernel)
theorem zw494 : Cond.classLink "TemplateHouse$Maker" 78 "TemplateHouse$Heap" ∈ zT := zsub3 14 (by decide +kernel) (by decide +kernel)
theorem zw495 : Cond.instantiable "TemplateHouse$Heap" 20 ∈ zT := zsub3 15 (by decide +kernel) (by decide +kernel)
theorem zw12 : Cond.initialized "TemplateHouse$Heap" ∈ zT := zsub1 12 (by decide +kernel) (by decide +kernel)
theorem zw499 : Cond.methodLink "TemplateHouse$Heap" 3 ⟨"java/lang/Object", "<init>", "()V"⟩ ∈ zT := zsub3 19 (by decide +kernel) (by decide +kernel)
theorem zw506 : Cond.fieldLink "TemplateHouse$Heap" 9 "TemplateHouse$Heap" "text" "[I" ∈ zT := zsub3 26 (by decide +kernel) (by decide +kernel)
theorem zw508 : Cond.fieldLink "TemplateHouse$Heap" 15 "TemplateHouse$Heap" "parent" "[I" ∈ zT := zsub3 28 (by decide +kernel) (by decide +kernel)
theorem zw509 : Cond.fieldLink "TemplateHouse$Heap" 18 "TemplateHouse$Heap" "turn" "[I" ∈ zT := zsub3 29 (by decide +kernel) (by decide +kernel)
theorem zw511 : Cond.fieldLink "TemplateHouse$Heap" 21 "TemplateHouse$Heap" "attrs" "[I" ∈ zT := zsub3 31 (by decide +kernel) (by decide +kernel)
theorem zw513 : Cond.fieldLink "TemplateHouse$Heap" 24 "TemplateHouse$Heap" "made" "I" ∈ zT := zsub3 33 (by decide +kernel) (by decide +kernel)
theorem zw500 : Cond.constant "TemplateHouse$Heap" 28 (45000 : Int32) ∈ zT := zsub3 20 (by decide +kernel) (by decide +kernel)
theorem zw514 : Cond.fieldLink "TemplateHouse$Heap" 29 "TemplateHouse$Heap" "rows" "[I" ∈ zT := zsub3 34 (by decide +kernel) (by decide +kernel)
theorem zw515 : Cond.fieldLink "TemplateHouse$Heap" 32 "TemplateHouse$Heap" "rowsEnd" "I" ∈ zT := zsub3 35 (by decide +kernel) (by decide +kernel)
theorem zw516 : Cond.fieldLink "TemplateHouse$Heap" 35 "TemplateHouse$Heap" "listed" "I" ∈ zT := zsub3 36 (by decide +kernel) (by decide +kernel)
theorem zw501 : Cond.constant "TemplateHouse$Heap" 38 (40000 : Int32) ∈ zT := zsub3 21 (by decide +kernel) (by decide +kernel)
theorem zw517 : Cond.fieldLink "TemplateHouse$Heap" 39 "TemplateHouse$Heap" "words" "[B" ∈ zT := zsub3 37 (by decide +kernel) (by decide +kernel)
theorem zw519 : Cond.fieldLink "TemplateHouse$Heap" 43 "TemplateHouse$Heap" "wordsEnd" "I" ∈ zT := zsub3 39 (by decide +kernel) (by decide +kernel)
theorem zw520 : Cond.fieldLink "TemplateHouse$Heap" 46 "TemplateHouse$Heap" "rootNames" "[I" ∈ zT := zsub3 40 (by decide +kernel) (by decide +kernel)
theorem zw521 : Cond.fieldLink "TemplateHouse$Heap" 49 "TemplateHouse$Heap" "rootValues" "[I" ∈ zT := zsub3 41 (by decide +kernel) (by decide +kernel)
theorem zw522 : Cond.fieldLink "TemplateHouse$Heap" 52 "TemplateHouse$Heap" "rootCount" "I" ∈ zT := zsub3 42 (by decide +kernel) (by decide +kernel)
theorem zw523 : Cond.fieldLink "TemplateHouse$Heap" 55 "TemplateHouse$Heap" "spelled" "[B" ∈ zT := zsub3 43 (by decide +kernel) (by decide +kernel)
theorem zw525 : Cond.fieldLink "TemplateHouse$Heap" 58 "TemplateHouse$Heap" "from" "I" ∈ zT := zsub3 45 (by decide +kernel) (by decide +kernel)
theorem zw527 : Cond.fieldLink "TemplateHouse$Heap" 61 "TemplateHouse$Heap" "length" "I" ∈ zT := zsub3 47 (by decide +kernel) (by decide +kernel)
theorem zw529 : Cond.fieldLink "TemplateHouse$Heap" 64 "TemplateHouse$Heap" "digits" "[B" ∈ zT := zsub3 49 (by decide +kernel) (by decide +kernel)
theorem zw502 : Cond.fieldLink "TemplateHouse$Heap" 67 "TemplateHouse$Heap" "store" "LTemplateHouse$Store;" ∈ zT := zsub3 22 (by decide +kernel) (by decide +kernel)
theorem zw504 : Cond.fieldLink "TemplateHouse$Heap" 71 "TemplateHouse$Heap" "teller" "LTemplateHouse$Teller;" ∈ zT := zsub3 24 (by decide +kernel) (by decide +kernel)
theorem zw505 : Cond.fieldLink "TemplateHouse$Heap" 75 "TemplateHouse$Heap" "g" "LTemplateHouse$Gen;" ∈ zT := zsub3 25 (by decide +kernel) (by decide +kernel)
theorem zw496 : Cond.methodLink "TemplateHouse$Maker" 80 ⟨"TemplateHouse$Heap", "<init>", "(LTemplateHouse$Store;LTemplateHouse$Teller;LTemplateHouse$Gen;)V"⟩ ∈ zT := zsub3 16 (by decide +kernel) (by decide +kernel)
theorem zw644 : Cond.fieldLink "TemplateHouse$Maker" 83 "TemplateHouse$Maker" "heap" "LTemplateHouse$Heap;" ∈ zT := zsub3 164 (by decide +kernel) (by decide +kernel)
theorem zw571 : Cond.classLink "TemplateHouse$Maker" 87 "TemplateHouse$Writer" ∈ zT := zsub3 91 (by decide +kernel) (by decide +kernel)
theorem zw572 : Cond.instantiable "TemplateHouse$Writer" 16 ∈ zT := zsub3 92 (by decide +kernel) (by decide +kernel)
theorem zw13 : Cond.initialized "TemplateHouse$Writer" ∈ zT := zsub1 13 (by decide +kernel) (by decide +kernel)
theorem zw576 : Cond.methodLink "TemplateHouse$Writer" 1 ⟨"java/lang/Object", "<init>", "()V"⟩ ∈ zT := zsub3 96 (by decide +kernel) (by decide +kernel)
theorem zw580 : Cond.fieldLink "TemplateHouse$Writer" 9 "TemplateHouse$Writer" "text" "[B" ∈ zT := zsub3 100 (by decide +kernel) (by decide +kernel)
theorem zw577 : Cond.constant "TemplateHouse$Writer" 13 (36000 : Int32) ∈ zT := zsub3 97 (by decide +kernel) (by decide +kernel)
theorem zw582 : Cond.fieldLink "TemplateHouse$Writer" 14 "TemplateHouse$Writer" "noted" "[I" ∈ zT := zsub3 102 (by decide +kernel) (by decide +kernel)
theorem zw584 : Cond.fieldLink "TemplateHouse$Writer" 18 "TemplateHouse$Writer" "length" "I" ∈ zT := zsub3 104 (by decide +kernel) (by decide +kernel)
theorem zw586 : Cond.fieldLink "TemplateHouse$Writer" 22 "TemplateHouse$Writer" "width" "I" ∈ zT := zsub3 106 (by decide +kernel) (by decide +kernel)
theorem zw587 : Cond.fieldLink "TemplateHouse$Writer" 25 "TemplateHouse$Writer" "column" "I" ∈ zT := zsub3 107 (by decide +kernel) (by decide +kernel)
theorem zw589 : Cond.fieldLink "TemplateHouse$Writer" 28 "TemplateHouse$Writer" "atStart" "Z" ∈ zT := zsub3 109 (by decide +kernel) (by decide +kernel)
theorem zw591 : Cond.fieldLink "TemplateHouse$Writer" 32 "TemplateHouse$Writer" "puts" "I" ∈ zT := zsub3 111 (by decide +kernel) (by decide +kernel)
theorem zw593 : Cond.fieldLink "TemplateHouse$Writer" 35 "TemplateHouse$Writer" "level" "I" ∈ zT := zsub3 113 (by decide +kernel) (by decide +kernel)
theorem zw578 : Cond.constant "TemplateHouse$Writer" 38 (33000 : Int32) ∈ zT := zsub3 98 (by decide +kernel) (by decide +kernel)
theorem zw595 : Cond.fieldLink "TemplateHouse$Writer" 39 "TemplateHouse$Writer" "words" "[B" ∈ zT := zsub3 115 (by decide +kernel) (by decide +kernel)
theorem zw597 : Cond.fieldLink "TemplateHouse$Writer" 42 "TemplateHouse$Writer" "wordLength" "I" ∈ zT := zsub3 117 (by decide +kernel) (by decide +kernel)
theorem zw600 : Cond.fieldLink "TemplateHouse$Writer" 45 "TemplateHouse$Writer" "indents" "[I" ∈ zT := zsub3 120 (by decide +kernel) (by decide +kernel)
theorem zw601 : Cond.fieldLink "TemplateHouse$Writer" 48 "TemplateHouse$Writer" "indentBase" "I" ∈ zT := zsub3 121 (by decide +kernel) (by decide +kernel)
theorem zw603 : Cond.fieldLink "TemplateHouse$Writer" 51 "TemplateHouse$Writer" "indentEnd" "I" ∈ zT := zsub3 123 (by decide +kernel) (by decide +kernel)
theorem zw605 : Cond.fieldLink "TemplateHouse$Writer" 54 "TemplateHouse$Writer" "anchor" "I" ∈ zT := zsub3 125 (by decide +kernel) (by decide +kernel)
theorem zw579 : Cond.fieldLink "TemplateHouse$Writer" 57 "TemplateHouse$Writer" "teller" "LTemplateHouse$Teller;" ∈ zT := zsub3 99 (by decide +kernel) (by decide +kernel)
theorem zw248 : Cond.fieldLink "TemplateHouse$Writer" 61 "TemplateHouse$Gen" "pool" "[B" ∈ zT := zsub2 8 (by decide +kernel) (by decide +kernel)
theorem zw599 : Cond.fieldLink "TemplateHouse$Writer" 66 "TemplateHouse$Writer" "pool" "[B" ∈ zT := zsub3 119 (by decide +kernel) (by decide +kernel)
theorem zw573 : Cond.methodLink "TemplateHouse$Maker" 89 ⟨"TemplateHouse$Writer", "<init>", "(LTemplateHouse$Teller;LTemplateHouse$Gen;)V"⟩ ∈ zT := zsub3 93 (by decide +kernel) (by decide +kernel)
theorem zw642 : Cond.fieldLink "TemplateHouse$Maker" 92 "TemplateHouse$Maker" "writer" "LTemplateHouse$Writer;" ∈ zT := zsub3 162 (by decide +kernel) (by decide +kernel)
theorem zw466 : Cond.methodLink "TemplateHouse" 94 ⟨"TemplateHouse$Maker", "<init>", "(LTemplateHouse$Store;LTemplateHouse$Gen;)V"⟩ ∈ zT := zsub2 226 (by decide +kernel) (by decide +kernel)
theorem zw719 : Cond.fieldLink "TemplateHouse" 97 "TemplateHouse" "maker" "LTemplateHouse$Maker;" ∈ zT := zsub3 239 (by decide +kernel) (by decide +kernel)
theorem zw34 : Cond.code ⟨"TemplateHouse", "<init>", "()V"⟩ prog_1_method_1_code 7 (Option.none : Option Jvm.ClassFile.FieldType) ∈ zT := zsub1 34 rfl rfl
theorem zw1 : Cond.initialized "TemplateHouse" ∈ zT := zsub1 1 (by decide +kernel) (by decide +kernel)
theorem zw33 : Cond.instanceMethod ⟨"TemplateHouse", "<init>", "()V"⟩ ∈ zT := zsub1 33 (by decide +kernel) (by decide +kernel)
theorem zw44 : Cond.code ⟨"TemplateHouse$Store", "<init>", "()V"⟩ prog_10_method_1_code 1 (Option.none : Option Jvm.ClassFile.FieldType) ∈ zT := zsub1 44 rfl rfl
theorem zw43 : Cond.instanceMethod ⟨"TemplateHouse$Store", "<init>", "()V"⟩ ∈ zT := zsub1 43 (by decide +kernel) (by decide +kernel)
theorem zw113 : Cond.code ⟨"TemplateHouse$Source", "<init>", "()V"⟩ prog_9_method_1_code 1 (Option.none : Option Jvm.ClassFile.FieldType) ∈ zT := zsub1 113 rfl rfl
theorem zw112 : Cond.instanceMethod ⟨"TemplateHouse$Source", "<init>", "()V"⟩ ∈ zT := zsub1 112 (by decide +kernel) (by decide +kernel)
theorem zw166 : Cond.code ⟨"TemplateHouse$Gen", "<init>", "()V"⟩ prog_4_method_1_code 1 (Option.none : Option Jvm.ClassFile.FieldType) ∈ zT := zsub1 166 rfl rfl
theorem zw165 : Cond.instanceMethod ⟨"TemplateHouse$Gen", "<init>", "()V"⟩ ∈ zT := zsub1 165 (by decide +kernel) (by decide +kernel)
theorem zw172 : Cond.code ⟨"TemplateHouse$Names", "<init>", "()V"⟩ prog_8_method_1_code 1 (Option.none : Option Jvm.ClassFile.FieldType) ∈ zT := zsub1 172 rfl rfl
theorem zw171 : Cond.instanceMethod ⟨"TemplateHouse$Names", "<init>", "()V"⟩ ∈ zT := zsub1 171 (by decide +kernel) (by decide +kernel)
theorem zw204 : Cond.code ⟨"TemplateHouse$Imports", "<init>", "()V"⟩ prog_6_method_1_code 1 (Option.none : Option Jvm.ClassFile.FieldType) ∈ zT := zsub1 204 rfl rfl
theorem zw203 : Cond.instanceMethod ⟨"TemplateHouse$Imports", "<init>", "()V"⟩ ∈ zT := zsub1 203 (by decide +kernel) (by decide +kernel)
theorem zw321 : Cond.code ⟨"TemplateHouse$FileReader", "<init>", "([[B[ILTemplateHouse$Source;LTemplateHouse$Gen;)V"⟩ prog_3_method_1_code 5 (Option.none : Option Jvm.ClassFile.FieldType) ∈ zT := zsub2 81 rfl rfl
theorem zw320 : Cond.instanceMethod ⟨"TemplateHouse$FileReader", "<init>", "([[B[ILTemplateHouse$Source;LTemplateHouse$Gen;)V"⟩ ∈ zT := zsub2 80 (by decide +kernel) (by decide +kernel)
theorem zw328 : Cond.code ⟨"TemplateHouse$TextReader", "<init>", "(LTemplateHouse$Source;LTemplateHouse$Gen;)V"⟩ prog_12_method_1_code 3 (Option.none : Option Jvm.ClassFile.FieldType) ∈ zT := zsub2 88 rfl rfl
theorem zw327 : Cond.instanceMethod ⟨"TemplateHouse$TextReader", "<init>", "(LTemplateHouse$Source;LTemplateHouse$Gen;)V"⟩ ∈ zT := zsub2 87 (by decide +kernel) (by decide +kernel)
theorem zw446 : Cond.code ⟨"TemplateHouse$Checker", "<init>", "(LTemplateHouse$Source;LTemplateHouse$Gen;)V"⟩ prog_2_method_1_code 3 (Option.none : Option Jvm.ClassFile.FieldType) ∈ zT := zsub2 206 rfl rfl
theorem zw445 : Cond.instanceMethod ⟨"TemplateHouse$Checker", "<init>", "(LTemplateHouse$Source;LTemplateHouse$Gen;)V"⟩ ∈ zT := zsub2 205 (by decide +kernel) (by decide +kernel)
theorem zw468 : Cond.code ⟨"TemplateHouse$Maker", "<init>", "(LTemplateHouse$Store;LTemplateHouse$Gen;)V"⟩ prog_7_method_1_code 4 (Option.none : Option Jvm.ClassFile.FieldType) ∈ zT := zsub2 228 rfl rfl
theorem zw467 : Cond.instanceMethod ⟨"TemplateHouse$Maker", "<init>", "(LTemplateHouse$Store;LTemplateHouse$Gen;)V"⟩ ∈ zT := zsub2 227 (by decide +kernel) (by decide +kernel)
theorem zw476 : Cond.code ⟨"TemplateHouse$Teller", "<init>", "()V"⟩ prog_11_method_1_code 1 (Option.none : Option Jvm.ClassFile.FieldType) ∈ zT := zsub2 236 rfl rfl
theorem zw475 : Cond.instanceMethod ⟨"TemplateHouse$Teller", "<init>", "()V"⟩ ∈ zT := zsub2 235 (by decide +kernel) (by decide +kernel)
theorem zw498 : Cond.code ⟨"TemplateHouse$Heap", "<init>", "(LTemplateHouse$Store;LTemplateHouse$Teller;LTemplateHouse$Gen;)V"⟩ prog_5_method_1_code 4 (Option.none : Option Jvm.ClassFile.FieldType) ∈ zT := zsub3 18 rfl rfl
theorem zw497 : Cond.instanceMethod ⟨"TemplateHouse$Heap", "<init>", "(LTemplateHouse$Store;LTemplateHouse$Teller;LTemplateHouse$Gen;)V"⟩ ∈ zT := zsub3 17 (by decide +kernel) (by decide +kernel)
theorem zw575 : Cond.code ⟨"TemplateHouse$Writer", "<init>", "(LTemplateHouse$Teller;LTemplateHouse$Gen;)V"⟩ prog_13_method_1_code 3 (Option.none : Option Jvm.ClassFile.FieldType) ∈ zT := zsub3 95 rfl rfl
theorem zw574 : Cond.instanceMethod ⟨"TemplateHouse$Writer", "<init>", "(LTemplateHouse$Teller;LTemplateHouse$Gen;)V"⟩ ∈ zT := zsub3 94 (by decide +kernel) (by decide +kernel)
abbrev cX12_init : ByteArray := prog_1_method_1_code
abbrev yX12_init : MethodName := ⟨"TemplateHouse", "<init>", "()V"⟩
theorem dmX12_init : zDi yX12_init cX12_init 7 0 := ⟨⟨⟨by decide +kernel, by decide +kernel, by decide +kernel⟩, zw34, zw1⟩, rfl, zw33⟩
abbrev cX8_init : ByteArray := prog_10_method_1_code
abbrev yX8_init : MethodName := ⟨"TemplateHouse$Store", "<init>", "()V"⟩
theorem dmX8_init : zDi yX8_init cX8_init 1 0 := ⟨⟨⟨by decide +kernel, by decide +kernel, by decide +kernel⟩, zw44, zw2⟩, rfl, zw43⟩
abbrev cX7_init : ByteArray := prog_9_method_1_code
abbrev yX7_init : MethodName := ⟨"TemplateHouse$Source", "<init>", "()V"⟩
theorem dmX7_init : zDi yX7_init cX7_init 1 0 := ⟨⟨⟨by decide +kernel, by decide +kernel, by decide +kernel⟩, zw113, zw3⟩, rfl, zw112⟩
abbrev cX2_init : ByteArray := prog_4_method_1_code
abbrev yX2_init : MethodName := ⟨"TemplateHouse$Gen", "<init>", "()V"⟩
theorem dmX2_init : zDi yX2_init cX2_init 1 0 := ⟨⟨⟨by decide +kernel, by decide +kernel, by decide +kernel⟩, zw166, zw4⟩, rfl, zw165⟩
abbrev cX6_init : ByteArray := prog_8_method_1_code
abbrev yX6_init : MethodName := ⟨"TemplateHouse$Names", "<init>", "()V"⟩
theorem dmX6_init : zDi yX6_init cX6_init 1 0 := ⟨⟨⟨by decide +kernel, by decide +kernel, by decide +kernel⟩, zw172, zw5⟩, rfl, zw171⟩
abbrev cX4_init : ByteArray := prog_6_method_1_code
abbrev yX4_init : MethodName := ⟨"TemplateHouse$Imports", "<init>", "()V"⟩
theorem dmX4_init : zDi yX4_init cX4_init 1 0 := ⟨⟨⟨by decide +kernel, by decide +kernel, by decide +kernel⟩, zw204, zw6⟩, rfl, zw203⟩
abbrev cX1_init : ByteArray := prog_3_method_1_code
abbrev yX1_init : MethodName := ⟨"TemplateHouse$FileReader", "<init>", "([[B[ILTemplateHouse$Source;LTemplateHouse$Gen;)V"⟩
theorem dmX1_init : zDi yX1_init cX1_init 5 4 := ⟨⟨⟨by decide +kernel, by decide +kernel, by decide +kernel⟩, zw321, zw7⟩, rfl, zw320⟩
abbrev cX10_init : ByteArray := prog_12_method_1_code
abbrev yX10_init : MethodName := ⟨"TemplateHouse$TextReader", "<init>", "(LTemplateHouse$Source;LTemplateHouse$Gen;)V"⟩
theorem dmX10_init : zDi yX10_init cX10_init 3 2 := ⟨⟨⟨by decide +kernel, by decide +kernel, by decide +kernel⟩, zw328, zw8⟩, rfl, zw327⟩
abbrev cX0_init : ByteArray := prog_2_method_1_code
abbrev yX0_init : MethodName := ⟨"TemplateHouse$Checker", "<init>", "(LTemplateHouse$Source;LTemplateHouse$Gen;)V"⟩
theorem dmX0_init : zDi yX0_init cX0_init 3 2 := ⟨⟨⟨by decide +kernel, by decide +kernel, by decide +kernel⟩, zw446, zw9⟩, rfl, zw445⟩
abbrev cX5_init : ByteArray := prog_7_method_1_code
abbrev yX5_init : MethodName := ⟨"TemplateHouse$Maker", "<init>", "(LTemplateHouse$Store;LTemplateHouse$Gen;)V"⟩
theorem dmX5_init : zDi yX5_init cX5_init 4 2 := ⟨⟨⟨by decide +kernel, by decide +kernel, by decide +kernel⟩, zw468, zw10⟩, rfl, zw467⟩
abbrev cX9_init : ByteArray := prog_11_method_1_code
abbrev yX9_init : MethodName := ⟨"TemplateHouse$Teller", "<init>", "()V"⟩
theorem dmX9_init : zDi yX9_init cX9_init 1 0 := ⟨⟨⟨by decide +kernel, by decide +kernel, by decide +kernel⟩, zw476, zw11⟩, rfl, zw475⟩
abbrev cX3_init : ByteArray := prog_5_method_1_code
abbrev yX3_init : MethodName := ⟨"TemplateHouse$Heap", "<init>", "(LTemplateHouse$Store;LTemplateHouse$Teller;LTemplateHouse$Gen;)V"⟩
theorem dmX3_init : zDi yX3_init cX3_init 4 3 := ⟨⟨⟨by decide +kernel, by decide +kernel, by decide +kernel⟩, zw498, zw12⟩, rfl, zw497⟩
abbrev cX11_init : ByteArray := prog_13_method_1_code
abbrev yX11_init : MethodName := ⟨"TemplateHouse$Writer", "<init>", "(LTemplateHouse$Teller;LTemplateHouse$Gen;)V"⟩
theorem dmX11_init : zDi yX11_init cX11_init 3 2 := ⟨⟨⟨by decide +kernel, by decide +kernel, by decide +kernel⟩, zw575, zw13⟩, rfl, zw574⟩
theorem dX12_init_0 : decode cX12_init 0 = .ok (.aload_n 0, 1) := by decide +kernel
theorem dX12_init_1 : decode cX12_init 1 = .ok (.invokespecial 3, 3) := by decide +kernel
theorem dX12_init_4 : decode cX12_init 4 = .ok (.aload_n 0, 1) := by decide +kernel
theorem dX12_init_5 : decode cX12_init 5 = .ok (.bipush 20, 2) := by decide +kernel
theorem dX12_init_7 : decode cX12_init 7 = .ok (.newarray .byte, 2) := by decide +kernel
theorem dX12_init_9 : decode cX12_init 9 = .ok (.putfield 9, 3) := by decide +kernel
theorem dX12_init_12 : decode cX12_init 12 = .ok (.aload_n 0, 1) := by decide +kernel
theorem dX12_init_13 : decode cX12_init 13 = .ok (.sipush 4000, 3) := by decide +kernel
theorem dX12_init_16 : decode cX12_init 16 = .ok (.newarray .byte, 2) := by decide +kernel
theorem dX12_init_18 : decode cX12_init 18 = .ok (.putfield 13, 3) := by decide +kernel
theorem dX12_init_21 : decode cX12_init 21 = .ok (.aload_n 0, 1) := by decide +kernel
theorem dX12_init_22 : decode cX12_init 22 = .ok (.iconst 0, 1) := by decide +kernel
theorem dX12_init_23 : decode cX12_init 23 = .ok (.putfield 16, 3) := by decide +kernel
theorem dX12_init_26 : decode cX12_init 26 = .ok (.aload_n 0, 1) := by decide +kernel
theorem dX12_init_27 : decode cX12_init 27 = .ok (.iconst 0, 1) := by decide +kernel
theorem dX12_init_28 : decode cX12_init 28 = .ok (.putfield 20, 3) := by decide +kernel
theorem dX12_init_31 : decode cX12_init 31 = .ok (.aload_n 0, 1) := by decide +kernel
theorem dX12_init_32 : decode cX12_init 32 = .ok (.iconst 0, 1) := by decide +kernel
theorem dX12_init_33 : decode cX12_init 33 = .ok (.putfield 23, 3) := by decide +kernel
theorem dX12_init_36 : decode cX12_init 36 = .ok (.aload_n 0, 1) := by decide +kernel
theorem dX12_init_37 : decode cX12_init 37 = .ok (.iconst (-1), 1) := by decide +kernel
theorem dX12_init_38 : decode cX12_init 38 = .ok (.putfield 26, 3) := by decide +kernel
theorem dX12_init_41 : decode cX12_init 41 = .ok (.aload_n 0, 1) := by decide +kernel
theorem dX12_init_42 : decode cX12_init 42 = .ok (.iconst (-1), 1) := by decide +kernel
theorem dX12_init_43 : decode cX12_init 43 = .ok (.putfield 29, 3) := by decide +kernel
theorem dX12_init_46 : decode cX12_init 46 = .ok (.aload_n 0, 1) := by decide +kernel
theorem dX12_init_47 : decode cX12_init 47 = .ok (.iconst 0, 1) := by decide +kernel
theorem dX12_init_48 : decode cX12_init 48 = .ok (.putfield 32, 3) := by decide +kernel
theorem dX12_init_51 : decode cX12_init 51 = .ok (.aload_n 0, 1) := by decide +kernel
theorem dX12_init_52 : decode cX12_init 52 = .ok (.iconst 0, 1) := by decide +kernel
theorem dX12_init_53 : decode cX12_init 53 = .ok (.putfield 35, 3) := by decide +kernel
theorem dX12_init_56 : decode cX12_init 56 = .ok (.aload_n 0, 1) := by decide +kernel
theorem dX12_init_57 : decode cX12_init 57 = .ok (.iconst 0, 1) := by decide +kernel
theorem dX12_init_58 : decode cX12_init 58 = .ok (.putfield 38, 3) := by decide +kernel
theorem dX12_init_61 : decode cX12_init 61 = .ok (.bipush 8, 2) := by decide +kernel
theorem dX12_init_63 : decode cX12_init 63 = .ok (.sipush 4000, 3) := by decide +kernel
theorem dX12_init_66 : decode cX12_init 66 = .ok (.multianewarray 41 2, 4) := by decide +kernel
theorem dX12_init_70 : decode cX12_init 70 = .ok (.astore_n 1, 1) := by decide +kernel
theorem dX12_init_71 : decode cX12_init 71 = .ok (.bipush 8, 2) := by decide +kernel
theorem dX12_init_73 : decode cX12_init 73 = .ok (.newarray .int, 2) := by decide +kernel
theorem dX12_init_75 : decode cX12_init 75 = .ok (.astore_n 2, 1) := by decide +kernel
theorem dX12_init_76 : decode cX12_init 76 = .ok (.new 43, 3) := by decide +kernel
theorem dX12_init_79 : decode cX12_init 79 = .ok (.dup, 1) := by decide +kernel
theorem dX12_init_80 : decode cX12_init 80 = .ok (.invokespecial 45, 3) := by decide +kernel
theorem dX8_init_0 : decode cX8_init 0 = .ok (.aload_n 0, 1) := by decide +kernel
theorem dX8_init_1 : decode cX8_init 1 = .ok (.invokespecial 3, 3) := by decide +kernel
theorem dX8_init_4 : decode cX8_init 4 = .ok (.aload_n 0, 1) := by decide +kernel
theorem dX8_init_5 : decode cX8_init 5 = .ok (.sipush 500, 3) := by decide +kernel
theorem dX8_init_8 : decode cX8_init 8 = .ok (.newarray .int, 2) := by decide +kernel
theorem dX8_init_10 : decode cX8_init 10 = .ok (.putfield 9, 3) := by decide +kernel
theorem dX8_init_13 : decode cX8_init 13 = .ok (.aload_n 0, 1) := by decide +kernel
theorem dX8_init_14 : decode cX8_init 14 = .ok (.sipush 500, 3) := by decide +kernel
theorem dX8_init_17 : decode cX8_init 17 = .ok (.newarray .long, 2) := by decide +kernel
theorem dX8_init_19 : decode cX8_init 19 = .ok (.putfield 15, 3) := by decide +kernel
theorem dX8_init_22 : decode cX8_init 22 = .ok (.aload_n 0, 1) := by decide +kernel
theorem dX8_init_23 : decode cX8_init 23 = .ok (.sipush 500, 3) := by decide +kernel
theorem dX8_init_26 : decode cX8_init 26 = .ok (.newarray .int, 2) := by decide +kernel
theorem dX8_init_28 : decode cX8_init 28 = .ok (.putfield 19, 3) := by decide +kernel
theorem dX8_init_31 : decode cX8_init 31 = .ok (.aload_n 0, 1) := by decide +kernel
theorem dX8_init_32 : decode cX8_init 32 = .ok (.sipush 500, 3) := by decide +kernel
theorem dX8_init_35 : decode cX8_init 35 = .ok (.newarray .int, 2) := by decide +kernel
theorem dX8_init_37 : decode cX8_init 37 = .ok (.putfield 22, 3) := by decide +kernel
theorem dX8_init_40 : decode cX8_init 40 = .ok (.aload_n 0, 1) := by decide +kernel
theorem dX8_init_41 : decode cX8_init 41 = .ok (.sipush 500, 3) := by decide +kernel
theorem dX8_init_44 : decode cX8_init 44 = .ok (.newarray .int, 2) := by decide +kernel
theorem dX8_init_46 : decode cX8_init 46 = .ok (.putfield 25, 3) := by decide +kernel
theorem dX8_init_49 : decode cX8_init 49 = .ok (.aload_n 0, 1) := by decide +kernel
theorem dX8_init_50 : decode cX8_init 50 = .ok (.ldc 28, 2) := by decide +kernel
theorem dX8_init_52 : decode cX8_init 52 = .ok (.newarray .int, 2) := by decide +kernel
theorem dX8_init_54 : decode cX8_init 54 = .ok (.putfield 29, 3) := by decide +kernel
theorem dX8_init_57 : decode cX8_init 57 = .ok (.aload_n 0, 1) := by decide +kernel
theorem dX8_init_58 : decode cX8_init 58 = .ok (.sipush 16000, 3) := by decide +kernel
theorem dX8_init_61 : decode cX8_init 61 = .ok (.newarray .byte, 2) := by decide +kernel
theorem dX8_init_63 : decode cX8_init 63 = .ok (.putfield 32, 3) := by decide +kernel
theorem dX8_init_66 : decode cX8_init 66 = .ok (.aload_n 0, 1) := by decide +kernel
theorem dX8_init_67 : decode cX8_init 67 = .ok (.iconst 0, 1) := by decide +kernel
theorem dX8_init_68 : decode cX8_init 68 = .ok (.putfield 36, 3) := by decide +kernel
theorem dX8_init_71 : decode cX8_init 71 = .ok (.aload_n 0, 1) := by decide +kernel
theorem dX8_init_72 : decode cX8_init 72 = .ok (.iconst 0, 1) := by decide +kernel
theorem dX8_init_73 : decode cX8_init 73 = .ok (.putfield 40, 3) := by decide +kernel
theorem dX8_init_76 : decode cX8_init 76 = .ok (.aload_n 0, 1) := by decide +kernel
theorem dX8_init_77 : decode cX8_init 77 = .ok (.iconst 0, 1) := by decide +kernel
theorem dX8_init_78 : decode cX8_init 78 = .ok (.putfield 43, 3) := by decide +kernel
theorem dX8_init_81 : decode cX8_init 81 = .ok (.aload_n 0, 1) := by decide +kernel
theorem dX8_init_82 : decode cX8_init 82 = .ok (.sipush 640, 3) := by decide +kernel
theorem dX8_init_85 : decode cX8_init 85 = .ok (.newarray .byte, 2) := by decide +kernel
theorem dX8_init_87 : decode cX8_init 87 = .ok (.putfield 46, 3) := by decide +kernel
theorem dX8_init_90 : decode cX8_init 90 = .ok (.aload_n 0, 1) := by decide +kernel
theorem dX8_init_91 : decode cX8_init 91 = .ok (.bipush 40, 2) := by decide +kernel
theorem dX8_init_93 : decode cX8_init 93 = .ok (.newarray .int, 2) := by decide +kernel
theorem dX8_init_95 : decode cX8_init 95 = .ok (.putfield 49, 3) := by decide +kernel
theorem dX8_init_98 : decode cX8_init 98 = .ok (.aload_n 0, 1) := by decide +kernel
theorem dX8_init_99 : decode cX8_init 99 = .ok (.bipush 40, 2) := by decide +kernel
theorem dX8_init_101 : decode cX8_init 101 = .ok (.newarray .int, 2) := by decide +kernel
theorem dX8_init_103 : decode cX8_init 103 = .ok (.putfield 52, 3) := by decide +kernel
theorem dX8_init_106 : decode cX8_init 106 = .ok (.aload_n 0, 1) := by decide +kernel
theorem dX8_init_107 : decode cX8_init 107 = .ok (.iconst 0, 1) := by decide +kernel
theorem dX8_init_108 : decode cX8_init 108 = .ok (.putfield 55, 3) := by decide +kernel
theorem dX8_init_111 : decode cX8_init 111 = .ok (.return_, 1) := by decide +kernel
theorem dX12_init_83 : decode cX12_init 83 = .ok (.astore_n 3, 1) := by decide +kernel
theorem dX12_init_84 : decode cX12_init 84 = .ok (.new 46, 3) := by decide +kernel
theorem dX12_init_87 : decode cX12_init 87 = .ok (.dup, 1) := by decide +kernel
theorem dX12_init_88 : decode cX12_init 88 = .ok (.invokespecial 48, 3) := by decide +kernel
theorem dX7_init_0 : decode cX7_init 0 = .ok (.aload_n 0, 1) := by decide +kernel
theorem dX7_init_1 : decode cX7_init 1 = .ok (.invokespecial 3, 3) := by decide +kernel
theorem dX7_init_4 : decode cX7_init 4 = .ok (.aload_n 0, 1) := by decide +kernel
theorem dX7_init_5 : decode cX7_init 5 = .ok (.iconst 0, 1) := by decide +kernel
theorem dX7_init_6 : decode cX7_init 6 = .ok (.newarray .byte, 2) := by decide +kernel
theorem dX7_init_8 : decode cX7_init 8 = .ok (.putfield 9, 3) := by decide +kernel
theorem dX7_init_11 : decode cX7_init 11 = .ok (.aload_n 0, 1) := by decide +kernel
theorem dX7_init_12 : decode cX7_init 12 = .ok (.iconst 1, 1) := by decide +kernel
theorem dX7_init_13 : decode cX7_init 13 = .ok (.putfield 15, 3) := by decide +kernel
theorem dX7_init_16 : decode cX7_init 16 = .ok (.aload_n 0, 1) := by decide +kernel
theorem dX7_init_17 : decode cX7_init 17 = .ok (.sipush 4001, 3) := by decide +kernel
theorem dX7_init_20 : decode cX7_init 20 = .ok (.newarray .byte, 2) := by decide +kernel
theorem dX7_init_22 : decode cX7_init 22 = .ok (.putfield 19, 3) := by decide +kernel
theorem dX7_init_25 : decode cX7_init 25 = .ok (.aload_n 0, 1) := by decide +kernel
theorem dX7_init_26 : decode cX7_init 26 = .ok (.sipush 4002, 3) := by decide +kernel
theorem dX7_init_29 : decode cX7_init 29 = .ok (.newarray .int, 2) := by decide +kernel
theorem dX7_init_31 : decode cX7_init 31 = .ok (.putfield 22, 3) := by decide +kernel
theorem dX7_init_34 : decode cX7_init 34 = .ok (.aload_n 0, 1) := by decide +kernel
theorem dX7_init_35 : decode cX7_init 35 = .ok (.iconst 0, 1) := by decide +kernel
theorem dX7_init_36 : decode cX7_init 36 = .ok (.putfield 26, 3) := by decide +kernel
theorem dX7_init_39 : decode cX7_init 39 = .ok (.aload_n 0, 1) := by decide +kernel
theorem dX7_init_40 : decode cX7_init 40 = .ok (.iconst 0, 1) := by decide +kernel
theorem dX7_init_41 : decode cX7_init 41 = .ok (.putfield 30, 3) := by decide +kernel
theorem dX7_init_44 : decode cX7_init 44 = .ok (.aload_n 0, 1) := by decide +kernel
theorem dX7_init_45 : decode cX7_init 45 = .ok (.iconst 0, 1) := by decide +kernel
theorem dX7_init_46 : decode cX7_init 46 = .ok (.putfield 33, 3) := by decide +kernel
theorem dX7_init_49 : decode cX7_init 49 = .ok (.aload_n 0, 1) := by decide +kernel
theorem dX7_init_50 : decode cX7_init 50 = .ok (.iconst 0, 1) := by decide +kernel
theorem dX7_init_51 : decode cX7_init 51 = .ok (.putfield 36, 3) := by decide +kernel
theorem dX7_init_54 : decode cX7_init 54 = .ok (.aload_n 0, 1) := by decide +kernel
theorem dX7_init_55 : decode cX7_init 55 = .ok (.iconst 0, 1) := by decide +kernel
theorem dX7_init_56 : decode cX7_init 56 = .ok (.putfield 39, 3) := by decide +kernel
theorem dX7_init_59 : decode cX7_init 59 = .ok (.aload_n 0, 1) := by decide +kernel
theorem dX7_init_60 : decode cX7_init 60 = .ok (.iconst 0, 1) := by decide +kernel
theorem dX7_init_61 : decode cX7_init 61 = .ok (.newarray .byte, 2) := by decide +kernel
theorem dX7_init_63 : decode cX7_init 63 = .ok (.putfield 42, 3) := by decide +kernel
theorem dX7_init_66 : decode cX7_init 66 = .ok (.aload_n 0, 1) := by decide +kernel
theorem dX7_init_67 : decode cX7_init 67 = .ok (.iconst 0, 1) := by decide +kernel
theorem dX7_init_68 : decode cX7_init 68 = .ok (.putfield 45, 3) := by decide +kernel
theorem dX7_init_71 : decode cX7_init 71 = .ok (.aload_n 0, 1) := by decide +kernel
theorem dX7_init_72 : decode cX7_init 72 = .ok (.iconst 0, 1) := by decide +kernel
theorem dX7_init_73 : decode cX7_init 73 = .ok (.putfield 48, 3) := by decide +kernel
theorem dX7_init_76 : decode cX7_init 76 = .ok (.return_, 1) := by decide +kernel
theorem dX12_init_91 : decode cX12_init 91 = .ok (.astore 4, 2) := by decide +kernel
theorem dX12_init_93 : decode cX12_init 93 = .ok (.new 49, 3) := by decide +kernel
theorem dX12_init_96 : decode cX12_init 96 = .ok (.dup, 1) := by decide +kernel
theorem dX12_init_97 : decode cX12_init 97 = .ok (.invokespecial 51, 3) := by decide +kernel
theorem dX2_init_0 : decode cX2_init 0 = .ok (.aload_n 0, 1) := by decide +kernel
theorem dX2_init_1 : decode cX2_init 1 = .ok (.invokespecial 3, 3) := by decide +kernel
theorem dX2_init_4 : decode cX2_init 4 = .ok (.aload_n 0, 1) := by decide +kernel
theorem dX2_init_5 : decode cX2_init 5 = .ok (.new 9, 3) := by decide +kernel
theorem dX2_init_8 : decode cX2_init 8 = .ok (.dup, 1) := by decide +kernel
theorem dX2_init_9 : decode cX2_init 9 = .ok (.invokespecial 11, 3) := by decide +kernel
theorem dX6_init_0 : decode cX6_init 0 = .ok (.aload_n 0, 1) := by decide +kernel
theorem dX6_init_1 : decode cX6_init 1 = .ok (.invokespecial 3, 3) := by decide +kernel
theorem dX6_init_4 : decode cX6_init 4 = .ok (.aload_n 0, 1) := by decide +kernel
theorem dX6_init_5 : decode cX6_init 5 = .ok (.sipush 32100, 3) := by decide +kernel
theorem dX6_init_8 : decode cX6_init 8 = .ok (.newarray .byte, 2) := by decide +kernel
theorem dX6_init_10 : decode cX6_init 10 = .ok (.putfield 9, 3) := by decide +kernel
theorem dX6_init_13 : decode cX6_init 13 = .ok (.aload_n 0, 1) := by decide +kernel
theorem dX6_init_14 : decode cX6_init 14 = .ok (.sipush 16102, 3) := by decide +kernel
theorem dX6_init_17 : decode cX6_init 17 = .ok (.newarray .int, 2) := by decide +kernel
theorem dX6_init_19 : decode cX6_init 19 = .ok (.putfield 15, 3) := by decide +kernel
theorem dX6_init_22 : decode cX6_init 22 = .ok (.aload_n 0, 1) := by decide +kernel
theorem dX6_init_23 : decode cX6_init 23 = .ok (.sipush 16102, 3) := by decide +kernel
theorem dX6_init_26 : decode cX6_init 26 = .ok (.newarray .int, 2) := by decide +kernel
theorem dX6_init_28 : decode cX6_init 28 = .ok (.putfield 19, 3) := by decide +kernel
theorem dX6_init_31 : decode cX6_init 31 = .ok (.aload_n 0, 1) := by decide +kernel
theorem dX6_init_32 : decode cX6_init 32 = .ok (.sipush 8192, 3) := by decide +kernel
theorem dX6_init_35 : decode cX6_init 35 = .ok (.newarray .int, 2) := by decide +kernel
theorem dX6_init_37 : decode cX6_init 37 = .ok (.putfield 22, 3) := by decide +kernel
theorem dX6_init_40 : decode cX6_init 40 = .ok (.aload_n 0, 1) := by decide +kernel
theorem dX6_init_41 : decode cX6_init 41 = .ok (.iconst 0, 1) := by decide +kernel
theorem dX6_init_42 : decode cX6_init 42 = .ok (.putfield 25, 3) := by decide +kernel
theorem dX6_init_45 : decode cX6_init 45 = .ok (.aload_n 0, 1) := by decide +kernel
theorem dX6_init_46 : decode cX6_init 46 = .ok (.iconst 0, 1) := by decide +kernel
theorem dX6_init_47 : decode cX6_init 47 = .ok (.putfield 29, 3) := by decide +kernel
theorem dX6_init_50 : decode cX6_init 50 = .ok (.return_, 1) := by decide +kernel
theorem dX2_init_12 : decode cX2_init 12 = .ok (.putfield 12, 3) := by decide +kernel
theorem dX2_init_15 : decode cX2_init 15 = .ok (.aload_n 0, 1) := by decide +kernel
theorem dX2_init_16 : decode cX2_init 16 = .ok (.new 18, 3) := by decide +kernel
theorem dX2_init_19 : decode cX2_init 19 = .ok (.dup, 1) := by decide +kernel
theorem dX2_init_20 : decode cX2_init 20 = .ok (.invokespecial 20, 3) := by decide +kernel
theorem dX4_init_0 : decode cX4_init 0 = .ok (.aload_n 0, 1) := by decide +kernel
theorem dX4_init_1 : decode cX4_init 1 = .ok (.invokespecial 1, 3) := by decide +kernel
theorem dX4_init_4 : decode cX4_init 4 = .ok (.aload_n 0, 1) := by decide +kernel
theorem dX4_init_5 : decode cX4_init 5 = .ok (.bipush 64, 2) := by decide +kernel
theorem dX4_init_7 : decode cX4_init 7 = .ok (.newarray .int, 2) := by decide +kernel
theorem dX4_init_9 : decode cX4_init 9 = .ok (.putfield 7, 3) := by decide +kernel
theorem dX4_init_12 : decode cX4_init 12 = .ok (.aload_n 0, 1) := by decide +kernel
theorem dX4_init_13 : decode cX4_init 13 = .ok (.bipush 8, 2) := by decide +kernel
theorem dX4_init_15 : decode cX4_init 15 = .ok (.newarray .int, 2) := by decide +kernel
theorem dX4_init_17 : decode cX4_init 17 = .ok (.putfield 13, 3) := by decide +kernel
theorem dX4_init_20 : decode cX4_init 20 = .ok (.aload_n 0, 1) := by decide +kernel
theorem dX4_init_21 : decode cX4_init 21 = .ok (.bipush 64, 2) := by decide +kernel
theorem dX4_init_23 : decode cX4_init 23 = .ok (.newarray .int, 2) := by decide +kernel
theorem dX4_init_25 : decode cX4_init 25 = .ok (.putfield 16, 3) := by decide +kernel
theorem dX4_init_28 : decode cX4_init 28 = .ok (.aload_n 0, 1) := by decide +kernel
theorem dX4_init_29 : decode cX4_init 29 = .ok (.bipush 8, 2) := by decide +kernel
theorem dX4_init_31 : decode cX4_init 31 = .ok (.newarray .int, 2) := by decide +kernel
theorem dX4_init_33 : decode cX4_init 33 = .ok (.putfield 19, 3) := by decide +kernel
theorem dX4_init_36 : decode cX4_init 36 = .ok (.aload_n 0, 1) := by decide +kernel
theorem dX4_init_37 : decode cX4_init 37 = .ok (.bipush 8, 2) := by decide +kernel
theorem dX4_init_39 : decode cX4_init 39 = .ok (.newarray .int, 2) := by decide +kernel
theorem dX4_init_41 : decode cX4_init 41 = .ok (.putfield 22, 3) := by decide +kernel
theorem dX4_init_44 : decode cX4_init 44 = .ok (.aload_n 0, 1) := by decide +kernel
theorem dX4_init_45 : decode cX4_init 45 = .ok (.iconst 0, 1) := by decide +kernel
theorem dX4_init_46 : decode cX4_init 46 = .ok (.putfield 25, 3) := by decide +kernel
theorem dX4_init_49 : decode cX4_init 49 = .ok (.return_, 1) := by decide +kernel
theorem dX2_init_23 : decode cX2_init 23 = .ok (.putfield 21, 3) := by decide +kernel
theorem dX2_init_26 : decode cX2_init 26 = .ok (.aload_n 0, 1) := by decide +kernel
theorem dX2_init_27 : decode cX2_init 27 = .ok (.ldc 25, 2) := by decide +kernel
theorem dX2_init_29 : decode cX2_init 29 = .ok (.newarray .int, 2) := by decide +kernel
theorem dX2_init_31 : decode cX2_init 31 = .ok (.putfield 26, 3) := by decide +kernel
theorem dX2_init_34 : decode cX2_init 34 = .ok (.aload_n 0, 1) := by decide +kernel
theorem dX2_init_35 : decode cX2_init 35 = .ok (.iconst 1, 1) := by decide +kernel
theorem dX2_init_36 : decode cX2_init 36 = .ok (.putfield 30, 3) := by decide +kernel
theorem dX2_init_39 : decode cX2_init 39 = .ok (.aload_n 0, 1) := by decide +kernel
theorem dX2_init_40 : decode cX2_init 40 = .ok (.sipush 32400, 3) := by decide +kernel
theorem dX2_init_43 : decode cX2_init 43 = .ok (.newarray .byte, 2) := by decide +kernel
theorem dX2_init_45 : decode cX2_init 45 = .ok (.putfield 34, 3) := by decide +kernel
theorem dX2_init_48 : decode cX2_init 48 = .ok (.aload_n 0, 1) := by decide +kernel
theorem dX2_init_49 : decode cX2_init 49 = .ok (.sipush 32400, 3) := by decide +kernel
theorem dX2_init_52 : decode cX2_init 52 = .ok (.newarray .int, 2) := by decide +kernel
theorem dX2_init_54 : decode cX2_init 54 = .ok (.putfield 38, 3) := by decide +kernel
theorem dX2_init_57 : decode cX2_init 57 = .ok (.aload_n 0, 1) := by decide +kernel
theorem dX2_init_58 : decode cX2_init 58 = .ok (.iconst 0, 1) := by decide +kernel
theorem dX2_init_59 : decode cX2_init 59 = .ok (.putfield 41, 3) := by decide +kernel
theorem dX2_init_62 : decode cX2_init 62 = .ok (.aload_n 0, 1) := by decide +kernel
theorem dX2_init_63 : decode cX2_init 63 = .ok (.sipush 2240, 3) := by decide +kernel
theorem dX2_init_66 : decode cX2_init 66 = .ok (.newarray .int, 2) := by decide +kernel
theorem dX2_init_68 : decode cX2_init 68 = .ok (.putfield 44, 3) := by decide +kernel
theorem dX2_init_71 : decode cX2_init 71 = .ok (.aload_n 0, 1) := by decide +kernel
theorem dX2_init_72 : decode cX2_init 72 = .ok (.iconst 0, 1) := by decide +kernel
theorem dX2_init_73 : decode cX2_init 73 = .ok (.putfield 47, 3) := by decide +kernel
theorem dX2_init_76 : decode cX2_init 76 = .ok (.aload_n 0, 1) := by decide +kernel
theorem dX2_init_77 : decode cX2_init 77 = .ok (.sipush 32400, 3) := by decide +kernel
theorem dX2_init_80 : decode cX2_init 80 = .ok (.newarray .int, 2) := by decide +kernel
theorem dX2_init_82 : decode cX2_init 82 = .ok (.putfield 50, 3) := by decide +kernel
theorem dX2_init_85 : decode cX2_init 85 = .ok (.aload_n 0, 1) := by decide +kernel
theorem dX2_init_86 : decode cX2_init 86 = .ok (.iconst 0, 1) := by decide +kernel
theorem dX2_init_87 : decode cX2_init 87 = .ok (.putfield 53, 3) := by decide +kernel
theorem dX2_init_90 : decode cX2_init 90 = .ok (.aload_n 0, 1) := by decide +kernel
theorem dX2_init_91 : decode cX2_init 91 = .ok (.sipush 21600, 3) := by decide +kernel
theorem dX2_init_94 : decode cX2_init 94 = .ok (.newarray .int, 2) := by decide +kernel
theorem dX2_init_96 : decode cX2_init 96 = .ok (.putfield 56, 3) := by decide +kernel
theorem dX2_init_99 : decode cX2_init 99 = .ok (.aload_n 0, 1) := by decide +kernel
theorem dX2_init_100 : decode cX2_init 100 = .ok (.iconst 0, 1) := by decide +kernel
theorem dX2_init_101 : decode cX2_init 101 = .ok (.putfield 59, 3) := by decide +kernel
theorem dX2_init_104 : decode cX2_init 104 = .ok (.aload_n 0, 1) := by decide +kernel
theorem dX2_init_105 : decode cX2_init 105 = .ok (.bipush 8, 2) := by decide +kernel
theorem dX2_init_107 : decode cX2_init 107 = .ok (.newarray .int, 2) := by decide +kernel
theorem dX2_init_109 : decode cX2_init 109 = .ok (.putfield 62, 3) := by decide +kernel
theorem dX2_init_112 : decode cX2_init 112 = .ok (.aload_n 0, 1) := by decide +kernel
theorem dX2_init_113 : decode cX2_init 113 = .ok (.sipush 16102, 3) := by decide +kernel
theorem dX2_init_116 : decode cX2_init 116 = .ok (.newarray .int, 2) := by decide +kernel
theorem dX2_init_118 : decode cX2_init 118 = .ok (.putfield 65, 3) := by decide +kernel
theorem dX2_init_121 : decode cX2_init 121 = .ok (.aload_n 0, 1) := by decide +kernel
theorem dX2_init_122 : decode cX2_init 122 = .ok (.sipush 16102, 3) := by decide +kernel
theorem dX2_init_125 : decode cX2_init 125 = .ok (.newarray .int, 2) := by decide +kernel
theorem dX2_init_127 : decode cX2_init 127 = .ok (.putfield 68, 3) := by decide +kernel
theorem dX2_init_130 : decode cX2_init 130 = .ok (.aload_n 0, 1) := by decide +kernel
theorem dX2_init_131 : decode cX2_init 131 = .ok (.iconst 0, 1) := by decide +kernel
theorem dX2_init_132 : decode cX2_init 132 = .ok (.putfield 71, 3) := by decide +kernel
theorem dX2_init_135 : decode cX2_init 135 = .ok (.return_, 1) := by decide +kernel
theorem dX12_init_100 : decode cX12_init 100 = .ok (.astore 5, 2) := by decide +kernel
theorem dX12_init_102 : decode cX12_init 102 = .ok (.new 49, 3) := by decide +kernel
theorem dX12_init_105 : decode cX12_init 105 = .ok (.dup, 1) := by decide +kernel
theorem dX12_init_106 : decode cX12_init 106 = .ok (.invokespecial 51, 3) := by decide +kernel
theorem dX12_init_109 : decode cX12_init 109 = .ok (.astore 6, 2) := by decide +kernel
theorem dX12_init_111 : decode cX12_init 111 = .ok (.aload_n 0, 1) := by decide +kernel
theorem dX12_init_112 : decode cX12_init 112 = .ok (.aload_n 1, 1) := by decide +kernel
theorem dX12_init_113 : decode cX12_init 113 = .ok (.putfield 52, 3) := by decide +kernel
theorem dX12_init_116 : decode cX12_init 116 = .ok (.aload_n 0, 1) := by decide +kernel
theorem dX12_init_117 : decode cX12_init 117 = .ok (.aload_n 2, 1) := by decide +kernel
theorem dX12_init_118 : decode cX12_init 118 = .ok (.putfield 55, 3) := by decide +kernel
theorem dX12_init_121 : decode cX12_init 121 = .ok (.aload_n 0, 1) := by decide +kernel
theorem dX12_init_122 : decode cX12_init 122 = .ok (.aload_n 3, 1) := by decide +kernel
theorem dX12_init_123 : decode cX12_init 123 = .ok (.putfield 59, 3) := by decide +kernel
theorem dX12_init_126 : decode cX12_init 126 = .ok (.aload_n 0, 1) := by decide +kernel
theorem dX12_init_127 : decode cX12_init 127 = .ok (.aload 4, 2) := by decide +kernel
theorem dX12_init_129 : decode cX12_init 129 = .ok (.putfield 63, 3) := by decide +kernel
theorem dX12_init_132 : decode cX12_init 132 = .ok (.aload_n 0, 1) := by decide +kernel
theorem dX12_init_133 : decode cX12_init 133 = .ok (.aload 5, 2) := by decide +kernel
theorem dX12_init_135 : decode cX12_init 135 = .ok (.putfield 67, 3) := by decide +kernel
theorem dX12_init_138 : decode cX12_init 138 = .ok (.aload_n 0, 1) := by decide +kernel
theorem dX12_init_139 : decode cX12_init 139 = .ok (.aload 6, 2) := by decide +kernel
theorem dX12_init_141 : decode cX12_init 141 = .ok (.putfield 71, 3) := by decide +kernel
theorem dX12_init_144 : decode cX12_init 144 = .ok (.aload_n 0, 1) := by decide +kernel
theorem dX12_init_145 : decode cX12_init 145 = .ok (.new 74, 3) := by decide +kernel
theorem dX12_init_148 : decode cX12_init 148 = .ok (.dup, 1) := by decide +kernel
theorem dX12_init_149 : decode cX12_init 149 = .ok (.aload_n 1, 1) := by decide +kernel
theorem dX12_init_150 : decode cX12_init 150 = .ok (.aload_n 2, 1) := by decide +kernel
theorem dX12_init_151 : decode cX12_init 151 = .ok (.aload 4, 2) := by decide +kernel
theorem dX12_init_153 : decode cX12_init 153 = .ok (.aload 6, 2) := by decide +kernel
theorem dX12_init_155 : decode cX12_init 155 = .ok (.invokespecial 76, 3) := by decide +kernel
theorem dX1_init_0 : decode cX1_init 0 = .ok (.aload_n 0, 1) := by decide +kernel
theorem dX1_init_1 : decode cX1_init 1 = .ok (.invokespecial 3, 3) := by decide +kernel
theorem dX1_init_4 : decode cX1_init 4 = .ok (.aload_n 0, 1) := by decide +kernel
theorem dX1_init_5 : decode cX1_init 5 = .ok (.bipush 13, 2) := by decide +kernel
theorem dX1_init_7 : decode cX1_init 7 = .ok (.newarray .int, 2) := by decide +kernel
theorem dX1_init_9 : decode cX1_init 9 = .ok (.putfield 9, 3) := by decide +kernel
theorem dX1_init_12 : decode cX1_init 12 = .ok (.aload_n 0, 1) := by decide +kernel
theorem dX1_init_13 : decode cX1_init 13 = .ok (.bipush 13, 2) := by decide +kernel
theorem dX1_init_15 : decode cX1_init 15 = .ok (.newarray .int, 2) := by decide +kernel
theorem dX1_init_17 : decode cX1_init 17 = .ok (.putfield 15, 3) := by decide +kernel
theorem dX1_init_20 : decode cX1_init 20 = .ok (.aload_n 0, 1) := by decide +kernel
theorem dX1_init_21 : decode cX1_init 21 = .ok (.iconst 0, 1) := by decide +kernel
theorem dX1_init_22 : decode cX1_init 22 = .ok (.putfield 18, 3) := by decide +kernel
theorem dX1_init_25 : decode cX1_init 25 = .ok (.aload_n 0, 1) := by decide +kernel
theorem dX1_init_26 : decode cX1_init 26 = .ok (.sipush 1400, 3) := by decide +kernel
theorem dX1_init_29 : decode cX1_init 29 = .ok (.newarray .int, 2) := by decide +kernel
theorem dX1_init_31 : decode cX1_init 31 = .ok (.putfield 22, 3) := by decide +kernel
theorem dX1_init_34 : decode cX1_init 34 = .ok (.aload_n 0, 1) := by decide +kernel
theorem dX1_init_35 : decode cX1_init 35 = .ok (.sipush 1400, 3) := by decide +kernel
theorem dX1_init_38 : decode cX1_init 38 = .ok (.newarray .int, 2) := by decide +kernel
theorem dX1_init_40 : decode cX1_init 40 = .ok (.putfield 25, 3) := by decide +kernel
theorem dX1_init_43 : decode cX1_init 43 = .ok (.aload_n 0, 1) := by decide +kernel
theorem dX1_init_44 : decode cX1_init 44 = .ok (.iconst 0, 1) := by decide +kernel
theorem dX1_init_45 : decode cX1_init 45 = .ok (.putfield 28, 3) := by decide +kernel
theorem dX1_init_48 : decode cX1_init 48 = .ok (.aload_n 0, 1) := by decide +kernel
theorem dX1_init_49 : decode cX1_init 49 = .ok (.ldc 31, 2) := by decide +kernel
theorem dX1_init_51 : decode cX1_init 51 = .ok (.putfield 32, 3) := by decide +kernel
theorem dX1_init_54 : decode cX1_init 54 = .ok (.aload_n 0, 1) := by decide +kernel
theorem dX1_init_55 : decode cX1_init 55 = .ok (.bipush 9, 2) := by decide +kernel
theorem dX1_init_57 : decode cX1_init 57 = .ok (.newarray .int, 2) := by decide +kernel
theorem dX1_init_59 : decode cX1_init 59 = .ok (.putfield 35, 3) := by decide +kernel
theorem dX1_init_62 : decode cX1_init 62 = .ok (.aload_n 0, 1) := by decide +kernel
theorem dX1_init_63 : decode cX1_init 63 = .ok (.bipush 9, 2) := by decide +kernel
theorem dX1_init_65 : decode cX1_init 65 = .ok (.newarray .int, 2) := by decide +kernel
theorem dX1_init_67 : decode cX1_init 67 = .ok (.putfield 38, 3) := by decide +kernel
theorem dX1_init_70 : decode cX1_init 70 = .ok (.aload_n 0, 1) := by decide +kernel
theorem dX1_init_71 : decode cX1_init 71 = .ok (.iconst 0, 1) := by decide +kernel
theorem dX1_init_72 : decode cX1_init 72 = .ok (.putfield 41, 3) := by decide +kernel
theorem dX1_init_75 : decode cX1_init 75 = .ok (.aload_n 0, 1) := by decide +kernel
theorem dX1_init_76 : decode cX1_init 76 = .ok (.iconst 0, 1) := by decide +kernel
theorem dX1_init_77 : decode cX1_init 77 = .ok (.putfield 44, 3) := by decide +kernel
theorem dX1_init_80 : decode cX1_init 80 = .ok (.aload_n 0, 1) := by decide +kernel
theorem dX1_init_81 : decode cX1_init 81 = .ok (.iconst 0, 1) := by decide +kernel
theorem dX1_init_82 : decode cX1_init 82 = .ok (.putfield 47, 3) := by decide +kernel
theorem dX1_init_85 : decode cX1_init 85 = .ok (.aload_n 0, 1) := by decide +kernel
theorem dX1_init_86 : decode cX1_init 86 = .ok (.iconst (-1), 1) := by decide +kernel
theorem dX1_init_87 : decode cX1_init 87 = .ok (.putfield 50, 3) := by decide +kernel
theorem dX1_init_90 : decode cX1_init 90 = .ok (.aload_n 0, 1) := by decide +kernel
theorem dX1_init_91 : decode cX1_init 91 = .ok (.iconst 0, 1) := by decide +kernel
theorem dX1_init_92 : decode cX1_init 92 = .ok (.putfield 53, 3) := by decide +kernel
theorem dX1_init_95 : decode cX1_init 95 = .ok (.aload_n 0, 1) := by decide +kernel
theorem dX1_init_96 : decode cX1_init 96 = .ok (.aload 4, 2) := by decide +kernel
theorem dX1_init_98 : decode cX1_init 98 = .ok (.putfield 57, 3) := by decide +kernel
theorem dX1_init_101 : decode cX1_init 101 = .ok (.aload_n 0, 1) := by decide +kernel
theorem dX1_init_102 : decode cX1_init 102 = .ok (.aload_n 1, 1) := by decide +kernel
theorem dX1_init_103 : decode cX1_init 103 = .ok (.putfield 61, 3) := by decide +kernel
theorem dX1_init_106 : decode cX1_init 106 = .ok (.aload_n 0, 1) := by decide +kernel
theorem dX1_init_107 : decode cX1_init 107 = .ok (.aload_n 2, 1) := by decide +kernel
theorem dX1_init_108 : decode cX1_init 108 = .ok (.putfield 65, 3) := by decide +kernel
theorem dX1_init_111 : decode cX1_init 111 = .ok (.aload_n 0, 1) := by decide +kernel
theorem dX1_init_112 : decode cX1_init 112 = .ok (.aload_n 3, 1) := by decide +kernel
theorem dX1_init_113 : decode cX1_init 113 = .ok (.putfield 68, 3) := by decide +kernel
theorem dX1_init_116 : decode cX1_init 116 = .ok (.aload_n 0, 1) := by decide +kernel
theorem dX1_init_117 : decode cX1_init 117 = .ok (.new 72, 3) := by decide +kernel
theorem dX1_init_120 : decode cX1_init 120 = .ok (.dup, 1) := by decide +kernel
theorem dX1_init_121 : decode cX1_init 121 = .ok (.aload_n 3, 1) := by decide +kernel
theorem dX1_init_122 : decode cX1_init 122 = .ok (.aload 4, 2) := by decide +kernel
theorem dX1_init_124 : decode cX1_init 124 = .ok (.invokespecial 74, 3) := by decide +kernel
theorem dX10_init_0 : decode cX10_init 0 = .ok (.aload_n 0, 1) := by decide +kernel
theorem dX10_init_1 : decode cX10_init 1 = .ok (.invokespecial 3, 3) := by decide +kernel
theorem dX10_init_4 : decode cX10_init 4 = .ok (.aload_n 0, 1) := by decide +kernel
theorem dX10_init_5 : decode cX10_init 5 = .ok (.bipush 60, 2) := by decide +kernel
theorem dX10_init_7 : decode cX10_init 7 = .ok (.putfield 9, 3) := by decide +kernel
theorem dX10_init_10 : decode cX10_init 10 = .ok (.aload_n 0, 1) := by decide +kernel
theorem dX10_init_11 : decode cX10_init 11 = .ok (.bipush 62, 2) := by decide +kernel
theorem dX10_init_13 : decode cX10_init 13 = .ok (.putfield 15, 3) := by decide +kernel
theorem dX10_init_16 : decode cX10_init 16 = .ok (.aload_n 0, 1) := by decide +kernel
theorem dX10_init_17 : decode cX10_init 17 = .ok (.iconst 2, 1) := by decide +kernel
theorem dX10_init_18 : decode cX10_init 18 = .ok (.putfield 18, 3) := by decide +kernel
theorem dX10_init_21 : decode cX10_init 21 = .ok (.aload_n 0, 1) := by decide +kernel
theorem dX10_init_22 : decode cX10_init 22 = .ok (.iconst (-1), 1) := by decide +kernel
theorem dX10_init_23 : decode cX10_init 23 = .ok (.putfield 21, 3) := by decide +kernel
theorem dX10_init_26 : decode cX10_init 26 = .ok (.aload_n 0, 1) := by decide +kernel
theorem dX10_init_27 : decode cX10_init 27 = .ok (.iconst (-1), 1) := by decide +kernel
theorem dX10_init_28 : decode cX10_init 28 = .ok (.putfield 24, 3) := by decide +kernel
theorem dX10_init_31 : decode cX10_init 31 = .ok (.aload_n 0, 1) := by decide +kernel
theorem dX10_init_32 : decode cX10_init 32 = .ok (.iconst 0, 1) := by decide +kernel
theorem dX10_init_33 : decode cX10_init 33 = .ok (.putfield 27, 3) := by decide +kernel
theorem dX10_init_36 : decode cX10_init 36 = .ok (.aload_n 0, 1) := by decide +kernel
theorem dX10_init_37 : decode cX10_init 37 = .ok (.iconst 0, 1) := by decide +kernel
theorem dX10_init_38 : decode cX10_init 38 = .ok (.putfield 30, 3) := by decide +kernel
theorem dX10_init_41 : decode cX10_init 41 = .ok (.aload_n 0, 1) := by decide +kernel
theorem dX10_init_42 : decode cX10_init 42 = .ok (.iconst 0, 1) := by decide +kernel
theorem dX10_init_43 : decode cX10_init 43 = .ok (.putfield 34, 3) := by decide +kernel
theorem dX10_init_46 : decode cX10_init 46 = .ok (.aload_n 0, 1) := by decide +kernel
theorem dX10_init_47 : decode cX10_init 47 = .ok (.iconst 0, 1) := by decide +kernel
theorem dX10_init_48 : decode cX10_init 48 = .ok (.putfield 37, 3) := by decide +kernel
theorem dX10_init_51 : decode cX10_init 51 = .ok (.aload_n 0, 1) := by decide +kernel
theorem dX10_init_52 : decode cX10_init 52 = .ok (.iconst 1, 1) := by decide +kernel
theorem dX10_init_53 : decode cX10_init 53 = .ok (.putfield 40, 3) := by decide +kernel
theorem dX10_init_56 : decode cX10_init 56 = .ok (.aload_n 0, 1) := by decide +kernel
theorem dX10_init_57 : decode cX10_init 57 = .ok (.iconst 0, 1) := by decide +kernel
theorem dX10_init_58 : decode cX10_init 58 = .ok (.putfield 43, 3) := by decide +kernel
theorem dX10_init_61 : decode cX10_init 61 = .ok (.aload_n 0, 1) := by decide +kernel
theorem dX10_init_62 : decode cX10_init 62 = .ok (.iconst 0, 1) := by decide +kernel
theorem dX10_init_63 : decode cX10_init 63 = .ok (.putfield 46, 3) := by decide +kernel
theorem dX10_init_66 : decode cX10_init 66 = .ok (.aload_n 0, 1) := by decide +kernel
theorem dX10_init_67 : decode cX10_init 67 = .ok (.iconst 0, 1) := by decide +kernel
theorem dX10_init_68 : decode cX10_init 68 = .ok (.putfield 49, 3) := by decide +kernel
theorem dX10_init_71 : decode cX10_init 71 = .ok (.aload_n 0, 1) := by decide +kernel
theorem dX10_init_72 : decode cX10_init 72 = .ok (.iconst 0, 1) := by decide +kernel
theorem dX10_init_73 : decode cX10_init 73 = .ok (.putfield 52, 3) := by decide +kernel
theorem dX10_init_76 : decode cX10_init 76 = .ok (.aload_n 0, 1) := by decide +kernel
theorem dX10_init_77 : decode cX10_init 77 = .ok (.iconst (-1), 1) := by decide +kernel
theorem dX10_init_78 : decode cX10_init 78 = .ok (.putfield 55, 3) := by decide +kernel
theorem dX10_init_81 : decode cX10_init 81 = .ok (.aload_n 0, 1) := by decide +kernel
theorem dX10_init_82 : decode cX10_init 82 = .ok (.aload_n 1, 1) := by decide +kernel
theorem dX10_init_83 : decode cX10_init 83 = .ok (.putfield 58, 3) := by decide +kernel
theorem dX10_init_86 : decode cX10_init 86 = .ok (.aload_n 0, 1) := by decide +kernel
theorem dX10_init_87 : decode cX10_init 87 = .ok (.aload_n 2, 1) := by decide +kernel
theorem dX10_init_88 : decode cX10_init 88 = .ok (.putfield 62, 3) := by decide +kernel
theorem dX10_init_91 : decode cX10_init 91 = .ok (.return_, 1) := by decide +kernel
theorem dX1_init_127 : decode cX1_init 127 = .ok (.putfield 77, 3) := by decide +kernel
theorem dX1_init_130 : decode cX1_init 130 = .ok (.return_, 1) := by decide +kernel
theorem dX12_init_158 : decode cX12_init 158 = .ok (.putfield 79, 3) := by decide +kernel
theorem dX12_init_161 : decode cX12_init 161 = .ok (.aload_n 0, 1) := by decide +kernel
theorem dX12_init_162 : decode cX12_init 162 = .ok (.new 83, 3) := by decide +kernel
theorem dX12_init_165 : decode cX12_init 165 = .ok (.dup, 1) := by decide +kernel
theorem dX12_init_166 : decode cX12_init 166 = .ok (.aload 4, 2) := by decide +kernel
theorem dX12_init_168 : decode cX12_init 168 = .ok (.aload 6, 2) := by decide +kernel
theorem dX12_init_170 : decode cX12_init 170 = .ok (.invokespecial 85, 3) := by decide +kernel
theorem dX0_init_0 : decode cX0_init 0 = .ok (.aload_n 0, 1) := by decide +kernel
theorem dX0_init_1 : decode cX0_init 1 = .ok (.invokespecial 3, 3) := by decide +kernel
theorem dX0_init_4 : decode cX0_init 4 = .ok (.aload_n 0, 1) := by decide +kernel
theorem dX0_init_5 : decode cX0_init 5 = .ok (.iconst 0, 1) := by decide +kernel
theorem dX0_init_6 : decode cX0_init 6 = .ok (.putfield 9, 3) := by decide +kernel
theorem dX0_init_9 : decode cX0_init 9 = .ok (.aload_n 0, 1) := by decide +kernel
theorem dX0_init_10 : decode cX0_init 10 = .ok (.iconst 0, 1) := by decide +kernel
theorem dX0_init_11 : decode cX0_init 11 = .ok (.putfield 15, 3) := by decide +kernel
theorem dX0_init_14 : decode cX0_init 14 = .ok (.aload_n 0, 1) := by decide +kernel
theorem dX0_init_15 : decode cX0_init 15 = .ok (.iconst 0, 1) := by decide +kernel
theorem dX0_init_16 : decode cX0_init 16 = .ok (.putfield 18, 3) := by decide +kernel
theorem dX0_init_19 : decode cX0_init 19 = .ok (.aload_n 0, 1) := by decide +kernel
theorem dX0_init_20 : decode cX0_init 20 = .ok (.aload_n 1, 1) := by decide +kernel
theorem dX0_init_21 : decode cX0_init 21 = .ok (.putfield 21, 3) := by decide +kernel
theorem dX0_init_24 : decode cX0_init 24 = .ok (.aload_n 0, 1) := by decide +kernel
theorem dX0_init_25 : decode cX0_init 25 = .ok (.aload_n 2, 1) := by decide +kernel
theorem dX0_init_26 : decode cX0_init 26 = .ok (.putfield 25, 3) := by decide +kernel
theorem dX0_init_29 : decode cX0_init 29 = .ok (.return_, 1) := by decide +kernel
theorem dX12_init_173 : decode cX12_init 173 = .ok (.putfield 88, 3) := by decide +kernel
theorem dX12_init_176 : decode cX12_init 176 = .ok (.aload_n 0, 1) := by decide +kernel
theorem dX12_init_177 : decode cX12_init 177 = .ok (.new 92, 3) := by decide +kernel
theorem dX12_init_180 : decode cX12_init 180 = .ok (.dup, 1) := by decide +kernel
theorem dX12_init_181 : decode cX12_init 181 = .ok (.aload_n 3, 1) := by decide +kernel
theorem dX12_init_182 : decode cX12_init 182 = .ok (.aload 5, 2) := by decide +kernel
theorem dX12_init_184 : decode cX12_init 184 = .ok (.invokespecial 94, 3) := by decide +kernel
theorem dX5_init_0 : decode cX5_init 0 = .ok (.aload_n 0, 1) := by decide +kernel
theorem dX5_init_1 : decode cX5_init 1 = .ok (.invokespecial 3, 3) := by decide +kernel
theorem dX5_init_4 : decode cX5_init 4 = .ok (.aload_n 0, 1) := by decide +kernel
theorem dX5_init_5 : decode cX5_init 5 = .ok (.ldc 9, 2) := by decide +kernel
theorem dX5_init_7 : decode cX5_init 7 = .ok (.newarray .int, 2) := by decide +kernel
theorem dX5_init_9 : decode cX5_init 9 = .ok (.putfield 10, 3) := by decide +kernel
theorem dX5_init_12 : decode cX5_init 12 = .ok (.aload_n 0, 1) := by decide +kernel
theorem dX5_init_13 : decode cX5_init 13 = .ok (.iconst 0, 1) := by decide +kernel
theorem dX5_init_14 : decode cX5_init 14 = .ok (.putfield 16, 3) := by decide +kernel
theorem dX5_init_17 : decode cX5_init 17 = .ok (.aload_n 0, 1) := by decide +kernel
theorem dX5_init_18 : decode cX5_init 18 = .ok (.ldc 20, 2) := by decide +kernel
theorem dX5_init_20 : decode cX5_init 20 = .ok (.newarray .int, 2) := by decide +kernel
theorem dX5_init_22 : decode cX5_init 22 = .ok (.putfield 21, 3) := by decide +kernel
theorem dX5_init_25 : decode cX5_init 25 = .ok (.aload_n 0, 1) := by decide +kernel
theorem dX5_init_26 : decode cX5_init 26 = .ok (.iconst 0, 1) := by decide +kernel
theorem dX5_init_27 : decode cX5_init 27 = .ok (.putfield 24, 3) := by decide +kernel
theorem dX5_init_30 : decode cX5_init 30 = .ok (.aload_n 0, 1) := by decide +kernel
theorem dX5_init_31 : decode cX5_init 31 = .ok (.iconst 0, 1) := by decide +kernel
theorem dX5_init_32 : decode cX5_init 32 = .ok (.putfield 27, 3) := by decide +kernel
theorem dX5_init_35 : decode cX5_init 35 = .ok (.aload_n 0, 1) := by decide +kernel
theorem dX5_init_36 : decode cX5_init 36 = .ok (.iconst 0, 1) := by decide +kernel
theorem dX5_init_37 : decode cX5_init 37 = .ok (.putfield 30, 3) := by decide +kernel
theorem dX5_init_40 : decode cX5_init 40 = .ok (.aload_n 0, 1) := by decide +kernel
theorem dX5_init_41 : decode cX5_init 41 = .ok (.iconst 0, 1) := by decide +kernel
theorem dX5_init_42 : decode cX5_init 42 = .ok (.putfield 33, 3) := by decide +kernel
theorem dX5_init_45 : decode cX5_init 45 = .ok (.aload_n 0, 1) := by decide +kernel
theorem dX5_init_46 : decode cX5_init 46 = .ok (.iconst 0, 1) := by decide +kernel
theorem dX5_init_47 : decode cX5_init 47 = .ok (.putfield 36, 3) := by decide +kernel
theorem dX5_init_50 : decode cX5_init 50 = .ok (.aload_n 0, 1) := by decide +kernel
theorem dX5_init_51 : decode cX5_init 51 = .ok (.iconst 0, 1) := by decide +kernel
theorem dX5_init_52 : decode cX5_init 52 = .ok (.putfield 39, 3) := by decide +kernel
theorem dX5_init_55 : decode cX5_init 55 = .ok (.aload_n 0, 1) := by decide +kernel
theorem dX5_init_56 : decode cX5_init 56 = .ok (.iconst 0, 1) := by decide +kernel
theorem dX5_init_57 : decode cX5_init 57 = .ok (.putfield 42, 3) := by decide +kernel
theorem dX5_init_60 : decode cX5_init 60 = .ok (.aload_n 0, 1) := by decide +kernel
theorem dX5_init_61 : decode cX5_init 61 = .ok (.iconst 0, 1) := by decide +kernel
theorem dX5_init_62 : decode cX5_init 62 = .ok (.putfield 45, 3) := by decide +kernel
theorem dX5_init_65 : decode cX5_init 65 = .ok (.aload_n 0, 1) := by decide +kernel
theorem dX5_init_66 : decode cX5_init 66 = .ok (.iconst (-1), 1) := by decide +kernel
theorem dX5_init_67 : decode cX5_init 67 = .ok (.putfield 48, 3) := by decide +kernel
theorem dX5_init_70 : decode cX5_init 70 = .ok (.aload_n 0, 1) := by decide +kernel
theorem dX5_init_71 : decode cX5_init 71 = .ok (.iconst (-1), 1) := by decide +kernel
theorem dX5_init_72 : decode cX5_init 72 = .ok (.putfield 51, 3) := by decide +kernel
theorem dX5_init_75 : decode cX5_init 75 = .ok (.aload_n 0, 1) := by decide +kernel
theorem dX5_init_76 : decode cX5_init 76 = .ok (.iconst 0, 1) := by decide +kernel
theorem dX5_init_77 : decode cX5_init 77 = .ok (.putfield 54, 3) := by decide +kernel
theorem dX5_init_80 : decode cX5_init 80 = .ok (.aload_n 0, 1) := by decide +kernel
theorem dX5_init_81 : decode cX5_init 81 = .ok (.iconst (-1), 1) := by decide +kernel
theorem dX5_init_82 : decode cX5_init 82 = .ok (.putfield 57, 3) := by decide +kernel
theorem dX5_init_85 : decode cX5_init 85 = .ok (.aload_n 0, 1) := by decide +kernel
theorem dX5_init_86 : decode cX5_init 86 = .ok (.iconst 0, 1) := by decide +kernel
theorem dX5_init_87 : decode cX5_init 87 = .ok (.putfield 60, 3) := by decide +kernel
theorem dX5_init_90 : decode cX5_init 90 = .ok (.aload_n 0, 1) := by decide +kernel
theorem dX5_init_91 : decode cX5_init 91 = .ok (.iconst 0, 1) := by decide +kernel
theorem dX5_init_92 : decode cX5_init 92 = .ok (.putfield 64, 3) := by decide +kernel
theorem dX5_init_95 : decode cX5_init 95 = .ok (.new 67, 3) := by decide +kernel
theorem dX5_init_98 : decode cX5_init 98 = .ok (.dup, 1) := by decide +kernel
theorem dX5_init_99 : decode cX5_init 99 = .ok (.invokespecial 69, 3) := by decide +kernel
theorem dX9_init_0 : decode cX9_init 0 = .ok (.aload_n 0, 1) := by decide +kernel
theorem dX9_init_1 : decode cX9_init 1 = .ok (.invokespecial 1, 3) := by decide +kernel
theorem dX9_init_4 : decode cX9_init 4 = .ok (.aload_n 0, 1) := by decide +kernel
theorem dX9_init_5 : decode cX9_init 5 = .ok (.sipush 1200, 3) := by decide +kernel
theorem dX9_init_8 : decode cX9_init 8 = .ok (.newarray .int, 2) := by decide +kernel
theorem dX9_init_10 : decode cX9_init 10 = .ok (.putfield 7, 3) := by decide +kernel
theorem dX9_init_13 : decode cX9_init 13 = .ok (.aload_n 0, 1) := by decide +kernel
theorem dX9_init_14 : decode cX9_init 14 = .ok (.sipush 2000, 3) := by decide +kernel
theorem dX9_init_17 : decode cX9_init 17 = .ok (.newarray .int, 2) := by decide +kernel
theorem dX9_init_19 : decode cX9_init 19 = .ok (.putfield 13, 3) := by decide +kernel
theorem dX9_init_22 : decode cX9_init 22 = .ok (.aload_n 0, 1) := by decide +kernel
theorem dX9_init_23 : decode cX9_init 23 = .ok (.iconst 3, 1) := by decide +kernel
theorem dX9_init_24 : decode cX9_init 24 = .ok (.newarray .int, 2) := by decide +kernel
theorem dX9_init_26 : decode cX9_init 26 = .ok (.putfield 16, 3) := by decide +kernel
theorem dX9_init_29 : decode cX9_init 29 = .ok (.return_, 1) := by decide +kernel
theorem dX5_init_102 : decode cX5_init 102 = .ok (.astore_n 3, 1) := by decide +kernel
theorem dX5_init_103 : decode cX5_init 103 = .ok (.aload_n 0, 1) := by decide +kernel
theorem dX5_init_104 : decode cX5_init 104 = .ok (.aload_n 2, 1) := by decide +kernel
theorem dX5_init_105 : decode cX5_init 105 = .ok (.putfield 70, 3) := by decide +kernel
theorem dX5_init_108 : decode cX5_init 108 = .ok (.aload_n 0, 1) := by decide +kernel
theorem dX5_init_109 : decode cX5_init 109 = .ok (.aload_n 3, 1) := by decide +kernel
theorem dX5_init_110 : decode cX5_init 110 = .ok (.putfield 74, 3) := by decide +kernel
theorem dX5_init_113 : decode cX5_init 113 = .ok (.aload_n 0, 1) := by decide +kernel
theorem dX5_init_114 : decode cX5_init 114 = .ok (.new 78, 3) := by decide +kernel
theorem dX5_init_117 : decode cX5_init 117 = .ok (.dup, 1) := by decide +kernel
theorem dX5_init_118 : decode cX5_init 118 = .ok (.aload_n 1, 1) := by decide +kernel
theorem dX5_init_119 : decode cX5_init 119 = .ok (.aload_n 3, 1) := by decide +kernel
theorem dX5_init_120 : decode cX5_init 120 = .ok (.aload_n 2, 1) := by decide +kernel
theorem dX5_init_121 : decode cX5_init 121 = .ok (.invokespecial 80, 3) := by decide +kernel
theorem dX3_init_0 : decode cX3_init 0 = .ok (.aload_n 0, 1) := by decide +kernel
theorem dX3_init_1 : decode cX3_init 1 = .ok (.invokespecial 3, 3) := by decide +kernel
theorem dX3_init_4 : decode cX3_init 4 = .ok (.aload_n 0, 1) := by decide +kernel
theorem dX3_init_5 : decode cX3_init 5 = .ok (.sipush 2000, 3) := by decide +kernel
theorem dX3_init_8 : decode cX3_init 8 = .ok (.newarray .int, 2) := by decide +kernel
theorem dX3_init_10 : decode cX3_init 10 = .ok (.putfield 9, 3) := by decide +kernel
theorem dX3_init_13 : decode cX3_init 13 = .ok (.aload_n 0, 1) := by decide +kernel
theorem dX3_init_14 : decode cX3_init 14 = .ok (.sipush 2000, 3) := by decide +kernel
theorem dX3_init_17 : decode cX3_init 17 = .ok (.newarray .int, 2) := by decide +kernel
theorem dX3_init_19 : decode cX3_init 19 = .ok (.putfield 15, 3) := by decide +kernel
theorem dX3_init_22 : decode cX3_init 22 = .ok (.aload_n 0, 1) := by decide +kernel
theorem dX3_init_23 : decode cX3_init 23 = .ok (.sipush 2000, 3) := by decide +kernel
theorem dX3_init_26 : decode cX3_init 26 = .ok (.newarray .int, 2) := by decide +kernel
theorem dX3_init_28 : decode cX3_init 28 = .ok (.putfield 18, 3) := by decide +kernel
theorem dX3_init_31 : decode cX3_init 31 = .ok (.aload_n 0, 1) := by decide +kernel
theorem dX3_init_32 : decode cX3_init 32 = .ok (.sipush 24000, 3) := by decide +kernel
theorem dX3_init_35 : decode cX3_init 35 = .ok (.newarray .int, 2) := by decide +kernel
theorem dX3_init_37 : decode cX3_init 37 = .ok (.putfield 21, 3) := by decide +kernel
theorem dX3_init_40 : decode cX3_init 40 = .ok (.aload_n 0, 1) := by decide +kernel
theorem dX3_init_41 : decode cX3_init 41 = .ok (.iconst 0, 1) := by decide +kernel
theorem dX3_init_42 : decode cX3_init 42 = .ok (.putfield 24, 3) := by decide +kernel
theorem dX3_init_45 : decode cX3_init 45 = .ok (.aload_n 0, 1) := by decide +kernel
theorem dX3_init_46 : decode cX3_init 46 = .ok (.ldc 28, 2) := by decide +kernel
theorem dX3_init_48 : decode cX3_init 48 = .ok (.newarray .int, 2) := by decide +kernel
theorem dX3_init_50 : decode cX3_init 50 = .ok (.putfield 29, 3) := by decide +kernel
theorem dX3_init_53 : decode cX3_init 53 = .ok (.aload_n 0, 1) := by decide +kernel
theorem dX3_init_54 : decode cX3_init 54 = .ok (.iconst 1, 1) := by decide +kernel
theorem dX3_init_55 : decode cX3_init 55 = .ok (.putfield 32, 3) := by decide +kernel
theorem dX3_init_58 : decode cX3_init 58 = .ok (.aload_n 0, 1) := by decide +kernel
theorem dX3_init_59 : decode cX3_init 59 = .ok (.iconst 0, 1) := by decide +kernel
theorem dX3_init_60 : decode cX3_init 60 = .ok (.putfield 35, 3) := by decide +kernel
theorem dX3_init_63 : decode cX3_init 63 = .ok (.aload_n 0, 1) := by decide +kernel
theorem dX3_init_64 : decode cX3_init 64 = .ok (.ldc 38, 2) := by decide +kernel
theorem dX3_init_66 : decode cX3_init 66 = .ok (.newarray .byte, 2) := by decide +kernel
theorem dX3_init_68 : decode cX3_init 68 = .ok (.putfield 39, 3) := by decide +kernel
theorem dX3_init_71 : decode cX3_init 71 = .ok (.aload_n 0, 1) := by decide +kernel
theorem dX3_init_72 : decode cX3_init 72 = .ok (.iconst 0, 1) := by decide +kernel
theorem dX3_init_73 : decode cX3_init 73 = .ok (.putfield 43, 3) := by decide +kernel
theorem dX3_init_76 : decode cX3_init 76 = .ok (.aload_n 0, 1) := by decide +kernel
theorem dX3_init_77 : decode cX3_init 77 = .ok (.bipush 40, 2) := by decide +kernel
theorem dX3_init_79 : decode cX3_init 79 = .ok (.newarray .int, 2) := by decide +kernel
theorem dX3_init_81 : decode cX3_init 81 = .ok (.putfield 46, 3) := by decide +kernel
theorem dX3_init_84 : decode cX3_init 84 = .ok (.aload_n 0, 1) := by decide +kernel
theorem dX3_init_85 : decode cX3_init 85 = .ok (.bipush 40, 2) := by decide +kernel
theorem dX3_init_87 : decode cX3_init 87 = .ok (.newarray .int, 2) := by decide +kernel
theorem dX3_init_89 : decode cX3_init 89 = .ok (.putfield 49, 3) := by decide +kernel
theorem dX3_init_92 : decode cX3_init 92 = .ok (.aload_n 0, 1) := by decide +kernel
theorem dX3_init_93 : decode cX3_init 93 = .ok (.iconst 0, 1) := by decide +kernel
theorem dX3_init_94 : decode cX3_init 94 = .ok (.putfield 52, 3) := by decide +kernel
theorem dX3_init_97 : decode cX3_init 97 = .ok (.aload_n 0, 1) := by decide +kernel
theorem dX3_init_98 : decode cX3_init 98 = .ok (.aload_n 0, 1) := by decide +kernel
theorem dX3_init_99 : decode cX3_init 99 = .ok (.getfield 39, 3) := by decide +kernel
theorem dX3_init_102 : decode cX3_init 102 = .ok (.putfield 55, 3) := by decide +kernel
theorem dX3_init_105 : decode cX3_init 105 = .ok (.aload_n 0, 1) := by decide +kernel
theorem dX3_init_106 : decode cX3_init 106 = .ok (.iconst 0, 1) := by decide +kernel
theorem dX3_init_107 : decode cX3_init 107 = .ok (.putfield 58, 3) := by decide +kernel
theorem dX3_init_110 : decode cX3_init 110 = .ok (.aload_n 0, 1) := by decide +kernel
theorem dX3_init_111 : decode cX3_init 111 = .ok (.iconst 0, 1) := by decide +kernel
theorem dX3_init_112 : decode cX3_init 112 = .ok (.putfield 61, 3) := by decide +kernel
theorem dX3_init_115 : decode cX3_init 115 = .ok (.aload_n 0, 1) := by decide +kernel
theorem dX3_init_116 : decode cX3_init 116 = .ok (.bipush 20, 2) := by decide +kernel
theorem dX3_init_118 : decode cX3_init 118 = .ok (.newarray .byte, 2) := by decide +kernel
theorem dX3_init_120 : decode cX3_init 120 = .ok (.putfield 64, 3) := by decide +kernel
theorem dX3_init_123 : decode cX3_init 123 = .ok (.aload_n 0, 1) := by decide +kernel
theorem dX3_init_124 : decode cX3_init 124 = .ok (.aload_n 1, 1) := by decide +kernel
theorem dX3_init_125 : decode cX3_init 125 = .ok (.putfield 67, 3) := by decide +kernel
theorem dX3_init_128 : decode cX3_init 128 = .ok (.aload_n 0, 1) := by decide +kernel
theorem dX3_init_129 : decode cX3_init 129 = .ok (.aload_n 2, 1) := by decide +kernel
theorem dX3_init_130 : decode cX3_init 130 = .ok (.putfield 71, 3) := by decide +kernel
theorem dX3_init_133 : decode cX3_init 133 = .ok (.aload_n 0, 1) := by decide +kernel
theorem dX3_init_134 : decode cX3_init 134 = .ok (.aload_n 3, 1) := by decide +kernel
theorem dX3_init_135 : decode cX3_init 135 = .ok (.putfield 75, 3) := by decide +kernel
theorem dX3_init_138 : decode cX3_init 138 = .ok (.return_, 1) := by decide +kernel
theorem dX5_init_124 : decode cX5_init 124 = .ok (.putfield 83, 3) := by decide +kernel
theorem dX5_init_127 : decode cX5_init 127 = .ok (.aload_n 0, 1) := by decide +kernel
theorem dX5_init_128 : decode cX5_init 128 = .ok (.new 87, 3) := by decide +kernel
theorem dX5_init_131 : decode cX5_init 131 = .ok (.dup, 1) := by decide +kernel
theorem dX5_init_132 : decode cX5_init 132 = .ok (.aload_n 3, 1) := by decide +kernel
theorem dX5_init_133 : decode cX5_init 133 = .ok (.aload_n 2, 1) := by decide +kernel
theorem dX5_init_134 : decode cX5_init 134 = .ok (.invokespecial 89, 3) := by decide +kernel
theorem dX11_init_0 : decode cX11_init 0 = .ok (.aload_n 0, 1) := by decide +kernel
theorem dX11_init_1 : decode cX11_init 1 = .ok (.invokespecial 1, 3) := by decide +kernel
theorem dX11_init_4 : decode cX11_init 4 = .ok (.aload_n 0, 1) := by decide +kernel
theorem dX11_init_5 : decode cX11_init 5 = .ok (.sipush 12000, 3) := by decide +kernel
theorem dX11_init_8 : decode cX11_init 8 = .ok (.newarray .byte, 2) := by decide +kernel
theorem dX11_init_10 : decode cX11_init 10 = .ok (.putfield 9, 3) := by decide +kernel
theorem dX11_init_13 : decode cX11_init 13 = .ok (.aload_n 0, 1) := by decide +kernel
theorem dX11_init_14 : decode cX11_init 14 = .ok (.ldc 13, 2) := by decide +kernel
theorem dX11_init_16 : decode cX11_init 16 = .ok (.newarray .int, 2) := by decide +kernel
theorem dX11_init_18 : decode cX11_init 18 = .ok (.putfield 14, 3) := by decide +kernel
theorem dX11_init_21 : decode cX11_init 21 = .ok (.aload_n 0, 1) := by decide +kernel
theorem dX11_init_22 : decode cX11_init 22 = .ok (.iconst 0, 1) := by decide +kernel
theorem dX11_init_23 : decode cX11_init 23 = .ok (.putfield 18, 3) := by decide +kernel
theorem dX11_init_26 : decode cX11_init 26 = .ok (.aload_n 0, 1) := by decide +kernel
theorem dX11_init_27 : decode cX11_init 27 = .ok (.iconst 0, 1) := by decide +kernel
theorem dX11_init_28 : decode cX11_init 28 = .ok (.putfield 22, 3) := by decide +kernel
theorem dX11_init_31 : decode cX11_init 31 = .ok (.aload_n 0, 1) := by decide +kernel
theorem dX11_init_32 : decode cX11_init 32 = .ok (.iconst 0, 1) := by decide +kernel
theorem dX11_init_33 : decode cX11_init 33 = .ok (.putfield 25, 3) := by decide +kernel
theorem dX11_init_36 : decode cX11_init 36 = .ok (.aload_n 0, 1) := by decide +kernel
theorem dX11_init_37 : decode cX11_init 37 = .ok (.iconst 1, 1) := by decide +kernel
theorem dX11_init_38 : decode cX11_init 38 = .ok (.putfield 28, 3) := by decide +kernel
theorem dX11_init_41 : decode cX11_init 41 = .ok (.aload_n 0, 1) := by decide +kernel
theorem dX11_init_42 : decode cX11_init 42 = .ok (.iconst 0, 1) := by decide +kernel
theorem dX11_init_43 : decode cX11_init 43 = .ok (.putfield 32, 3) := by decide +kernel
theorem dX11_init_46 : decode cX11_init 46 = .ok (.aload_n 0, 1) := by decide +kernel
theorem dX11_init_47 : decode cX11_init 47 = .ok (.iconst 0, 1) := by decide +kernel
theorem dX11_init_48 : decode cX11_init 48 = .ok (.putfield 35, 3) := by decide +kernel
theorem dX11_init_51 : decode cX11_init 51 = .ok (.aload_n 0, 1) := by decide +kernel
theorem dX11_init_52 : decode cX11_init 52 = .ok (.ldc 38, 2) := by decide +kernel
theorem dX11_init_54 : decode cX11_init 54 = .ok (.newarray .byte, 2) := by decide +kernel
theorem dX11_init_56 : decode cX11_init 56 = .ok (.putfield 39, 3) := by decide +kernel
theorem dX11_init_59 : decode cX11_init 59 = .ok (.aload_n 0, 1) := by decide +kernel
theorem dX11_init_60 : decode cX11_init 60 = .ok (.iconst 0, 1) := by decide +kernel
theorem dX11_init_61 : decode cX11_init 61 = .ok (.putfield 42, 3) := by decide +kernel
theorem dX11_init_64 : decode cX11_init 64 = .ok (.aload_n 0, 1) := by decide +kernel
theorem dX11_init_65 : decode cX11_init 65 = .ok (.sipush 200, 3) := by decide +kernel
theorem dX11_init_68 : decode cX11_init 68 = .ok (.newarray .int, 2) := by decide +kernel
theorem dX11_init_70 : decode cX11_init 70 = .ok (.putfield 45, 3) := by decide +kernel
theorem dX11_init_73 : decode cX11_init 73 = .ok (.aload_n 0, 1) := by decide +kernel
theorem dX11_init_74 : decode cX11_init 74 = .ok (.iconst 0, 1) := by decide +kernel
theorem dX11_init_75 : decode cX11_init 75 = .ok (.putfield 48, 3) := by decide +kernel
theorem dX11_init_78 : decode cX11_init 78 = .ok (.aload_n 0, 1) := by decide +kernel
theorem dX11_init_79 : decode cX11_init 79 = .ok (.iconst 0, 1) := by decide +kernel
theorem dX11_init_80 : decode cX11_init 80 = .ok (.putfield 51, 3) := by decide +kernel
theorem dX11_init_83 : decode cX11_init 83 = .ok (.aload_n 0, 1) := by decide +kernel
theorem dX11_init_84 : decode cX11_init 84 = .ok (.iconst 0, 1) := by decide +kernel
theorem dX11_init_85 : decode cX11_init 85 = .ok (.putfield 54, 3) := by decide +kernel
theorem dX11_init_88 : decode cX11_init 88 = .ok (.aload_n 0, 1) := by decide +kernel
theorem dX11_init_89 : decode cX11_init 89 = .ok (.aload_n 1, 1) := by decide +kernel
theorem dX11_init_90 : decode cX11_init 90 = .ok (.putfield 57, 3) := by decide +kernel
theorem dX11_init_93 : decode cX11_init 93 = .ok (.aload_n 0, 1) := by decide +kernel
theorem dX11_init_94 : decode cX11_init 94 = .ok (.aload_n 2, 1) := by decide +kernel
theorem dX11_init_95 : decode cX11_init 95 = .ok (.getfield 61, 3) := by decide +kernel
theorem dX11_init_98 : decode cX11_init 98 = .ok (.putfield 66, 3) := by decide +kernel
theorem dX11_init_101 : decode cX11_init 101 = .ok (.return_, 1) := by decide +kernel
theorem dX5_init_137 : decode cX5_init 137 = .ok (.putfield 92, 3) := by decide +kernel
theorem dX5_init_140 : decode cX5_init 140 = .ok (.return_, 1) := by decide +kernel
theorem dX12_init_187 : decode cX12_init 187 = .ok (.putfield 97, 3) := by decide +kernel
theorem dX12_init_190 : decode cX12_init 190 = .ok (.return_, 1) := by decide +kernel
theorem zd0 : ∀ j, j < 5 → defaultValue (tyX0 j) = vp_V [.null, .null, .int 0, .int 0, .int 0] j := zdef rfl
theorem zd1 : ∀ j, j < 19 → defaultValue (tyX1 j) = vp_V [.null, .null, .null, .null, .null, .null, .null, .int 0, .null, .null, .int 0, .int 0, .null, .null, .int 0, .int 0, .int 0, .int 0, .int 0] j := zdef rfl
theorem zd2 : ∀ j, j < 17 → defaultValue (tyX2 j) = vp_V [.null, .null, .null, .int 0, .null, .null, .int 0, .null, .int 0, .null, .int 0, .null, .int 0, .null, .null, .null, .int 0] j := zdef rfl
theorem zd3 : ∀ j, j < 20 → defaultValue (tyX3 j) = vp_V [.null, .null, .null, .null, .null, .null, .null, .int 0, .null, .int 0, .int 0, .null, .int 0, .null, .null, .int 0, .null, .int 0, .int 0, .null] j := zdef rfl
theorem zd4 : ∀ j, j < 6 → defaultValue (tyX4 j) = vp_V [.null, .null, .null, .null, .null, .int 0] j := zdef rfl
theorem zd5 : ∀ j, j < 21 → defaultValue (tyX5 j) = vp_V [.null, .null, .null, .null, .null, .int 0, .null, .int 0, .int 0, .int 0, .int 0, .int 0, .int 0, .int 0, .int 0, .int 0, .int 0, .int 0, .int 0, .int 0, .int 0] j := zdef rfl
theorem zd6 : ∀ j, j < 6 → defaultValue (tyX6 j) = vp_V [.null, .null, .null, .null, .int 0, .int 0] j := zdef rfl
theorem zd7 : ∀ j, j < 12 → defaultValue (tyX7 j) = vp_V [.null, .int 0, .null, .null, .int 0, .int 0, .int 0, .int 0, .int 0, .null, .int 0, .int 0] j := zdef rfl
theorem zd8 : ∀ j, j < 14 → defaultValue (tyX8 j) = vp_V [.null, .null, .null, .null, .null, .null, .null, .int 0, .int 0, .int 0, .null, .null, .null, .int 0] j := zdef rfl
theorem zd9 : ∀ j, j < 3 → defaultValue (tyX9 j) = vp_V [.null, .null, .null] j := zdef rfl
theorem zd10 : ∀ j, j < 17 → defaultValue (tyX10 j) = vp_V [.null, .null, .int 0, .int 0, .int 0, .int 0, .int 0, .int 0, .int 0, .int 0, .int 0, .int 0, .int 0, .int 0, .int 0, .int 0, .int 0] j := zdef rfl
theorem zd11 : ∀ j, j < 16 → defaultValue (tyX11 j) = vp_V [.null, .null, .null, .int 0, .int 0, .int 0, .int 0, .int 0, .int 0, .null, .int 0, .null, .null, .int 0, .int 0, .int 0] j := zdef rfl
